theorem dX3_init_0 : decode cX3_init 0 = .ok (.aload_n 0, 1) := by decide +kernel
theorem dX3_init_1 : decode cX3_init 1 = .ok (.invokespecial 1, 3) := by decide +kernel
theorem dX3_init_4 : decode cX3_init 4 = .ok (.aload_n 0, 1) := by decide +kernel
theorem dX3_init_5 : decode cX3_init 5 = .ok (.iconst 2, 1) := by decide +kernel
theorem dX3_init_6 : decode cX3_init 6 = .ok (.newarray .int, 2) := by decide +kernel
theorem dX3_init_8 : decode cX3_init 8 = .ok (.putfield 7, 3) := by decide +kernel
theorem dX3_init_11 : decode cX3_init 11 = .ok (.aload_n 0, 1) := by decide +kernel
theorem dX3_init_12 : decode cX3_init 12 = .ok (.iconst 2, 1) := by decide +kernel
theorem dX3_init_13 : decode cX3_init 13 = .ok (.newarray .int, 2) := by decide +kernel
theorem dX3_init_15 : decode cX3_init 15 = .ok (.dup, 1) := by decide +kernel
theorem dX3_init_16 : decode cX3_init 16 = .ok (.iconst 0, 1) := by decide +kernel
theorem dX3_init_17 : decode cX3_init 17 = .ok (.iconst 4, 1) := by decide +kernel
theorem dX3_init_18 : decode cX3_init 18 = .ok (.iastore, 1) := by decide +kernel
theorem dX3_init_19 : decode cX3_init 19 = .ok (.dup, 1) := by decide +kernel
theorem dX3_init_20 : decode cX3_init 20 = .ok (.iconst 1, 1) := by decide +kernel
theorem dX3_init_21 : decode cX3_init 21 = .ok (.bipush 8, 2) := by decide +kernel
theorem dX3_init_23 : decode cX3_init 23 = .ok (.iastore, 1) := by decide +kernel
theorem dX3_init_24 : decode cX3_init 24 = .ok (.putfield 13, 3) := by decide +kernel
theorem dX3_init_27 : decode cX3_init 27 = .ok (.aload_n 0, 1) := by decide +kernel
theorem dX3_init_28 : decode cX3_init 28 = .ok (.iconst 2, 1) := by decide +kernel
theorem dX3_init_29 : decode cX3_init 29 = .ok (.newarray .int, 2) := by decide +kernel
theorem dX3_init_31 : decode cX3_init 31 = .ok (.putfield 16, 3) := by decide +kernel
theorem dX3_init_34 : decode cX3_init 34 = .ok (.aload_n 0, 1) := by decide +kernel
theorem dX3_init_35 : decode cX3_init 35 = .ok (.bipush 8, 2) := by decide +kernel
theorem dX3_init_37 : decode cX3_init 37 = .ok (.newarray .int, 2) := by decide +kernel
theorem dX3_init_39 : decode cX3_init 39 = .ok (.putfield 19, 3) := by decide +kernel
theorem dX3_init_42 : decode cX3_init 42 = .ok (.aload_n 0, 1) := by decide +kernel
theorem dX3_init_43 : decode cX3_init 43 = .ok (.sipush 160, 3) := by decide +kernel
theorem dX3_init_46 : decode cX3_init 46 = .ok (.newarray .int, 2) := by decide +kernel
theorem dX3_init_48 : decode cX3_init 48 = .ok (.putfield 22, 3) := by decide +kernel
theorem dX3_init_51 : decode cX3_init 51 = .ok (.aload_n 0, 1) := by decide +kernel
theorem dX3_init_52 : decode cX3_init 52 = .ok (.sipush 128, 3) := by decide +kernel
theorem dX3_init_55 : decode cX3_init 55 = .ok (.newarray .boolean, 2) := by decide +kernel
theorem dX3_init_57 : decode cX3_init 57 = .ok (.putfield 25, 3) := by decide +kernel
theorem dX3_init_60 : decode cX3_init 60 = .ok (.aload_n 0, 1) := by decide +kernel
theorem dX3_init_61 : decode cX3_init 61 = .ok (.sipush 128, 3) := by decide +kernel
theorem dX3_init_64 : decode cX3_init 64 = .ok (.newarray .boolean, 2) := by decide +kernel
theorem dX3_init_66 : decode cX3_init 66 = .ok (.putfield 29, 3) := by decide +kernel
theorem dX3_init_69 : decode cX3_init 69 = .ok (.aload_n 0, 1) := by decide +kernel
theorem dX3_init_70 : decode cX3_init 70 = .ok (.bipush 6, 2) := by decide +kernel
theorem dX3_init_72 : decode cX3_init 72 = .ok (.newarray .int, 2) := by decide +kernel
theorem dX3_init_74 : decode cX3_init 74 = .ok (.putfield 32, 3) := by decide +kernel
theorem dX3_init_77 : decode cX3_init 77 = .ok (.return_, 1) := by decide +kernel
theorem dX3_isTier_0 : decode cX3_isTier 0 = .ok (.iload_n 0, 1) := by decide +kernel
theorem dX3_isTier_1 : decode cX3_isTier 1 = .ok (.ifCond .eq 8, 3) := by decide +kernel
theorem dX3_isTier_4 : decode cX3_isTier 4 = .ok (.iload_n 0, 1) := by decide +kernel
theorem dX3_isTier_5 : decode cX3_isTier 5 = .ok (.iconst 1, 1) := by decide +kernel
theorem dX3_isTier_6 : decode cX3_isTier 6 = .ok (.if_icmp .ne 7, 3) := by decide +kernel
theorem dX3_isTier_9 : decode cX3_isTier 9 = .ok (.iconst 1, 1) := by decide +kernel
theorem dX3_isTier_10 : decode cX3_isTier 10 = .ok (.goto 4, 3) := by decide +kernel
theorem dX3_isTier_13 : decode cX3_isTier 13 = .ok (.iconst 0, 1) := by decide +kernel
theorem dX3_isTier_14 : decode cX3_isTier 14 = .ok (.ireturn, 1) := by decide +kernel
theorem dX3_isPage_0 : decode cX3_isPage 0 = .ok (.iload_n 0, 1) := by decide +kernel
theorem dX3_isPage_1 : decode cX3_isPage 1 = .ok (.ifCond .lt 13, 3) := by decide +kernel
theorem dX3_isPage_4 : decode cX3_isPage 4 = .ok (.iload_n 0, 1) := by decide +kernel
theorem dX3_isPage_5 : decode cX3_isPage 5 = .ok (.bipush 64, 2) := by decide +kernel
theorem dX3_isPage_7 : decode cX3_isPage 7 = .ok (.if_icmp .ge 7, 3) := by decide +kernel
theorem dX3_isPage_10 : decode cX3_isPage 10 = .ok (.iconst 1, 1) := by decide +kernel
theorem dX3_isPage_11 : decode cX3_isPage 11 = .ok (.goto 4, 3) := by decide +kernel
theorem dX3_isPage_14 : decode cX3_isPage 14 = .ok (.iconst 0, 1) := by decide +kernel
theorem dX3_isPage_15 : decode cX3_isPage 15 = .ok (.ireturn, 1) := by decide +kernel
theorem dX3_begin_0 : decode cX3_begin 0 = .ok (.iload_n 1, 1) := by decide +kernel
theorem dX3_begin_1 : decode cX3_begin 1 = .ok (.ifCond .lt 43, 3) := by decide +kernel
theorem dX3_begin_4 : decode cX3_begin 4 = .ok (.iload_n 1, 1) := by decide +kernel
theorem dX3_begin_5 : decode cX3_begin 5 = .ok (.iconst 4, 1) := by decide +kernel
theorem dX3_begin_6 : decode cX3_begin 6 = .ok (.if_icmp .ge 38, 3) := by decide +kernel
theorem dX3_begin_9 : decode cX3_begin 9 = .ok (.iload_n 3, 1) := by decide +kernel
theorem dX3_begin_10 : decode cX3_begin 10 = .ok (.ifCond .lt 34, 3) := by decide +kernel
theorem dX3_begin_13 : decode cX3_begin 13 = .ok (.iload_n 3, 1) := by decide +kernel
theorem dX3_begin_14 : decode cX3_begin 14 = .ok (.iconst 4, 1) := by decide +kernel
theorem dX3_begin_15 : decode cX3_begin 15 = .ok (.if_icmp .ge 29, 3) := by decide +kernel
theorem dX3_begin_18 : decode cX3_begin 18 = .ok (.iload_n 2, 1) := by decide +kernel
theorem dX3_begin_19 : decode cX3_begin 19 = .ok (.ifCond .le 25, 3) := by decide +kernel
theorem dX3_begin_22 : decode cX3_begin 22 = .ok (.iload_n 2, 1) := by decide +kernel
theorem dX3_begin_23 : decode cX3_begin 23 = .ok (.bipush 17, 2) := by decide +kernel
theorem dX3_begin_25 : decode cX3_begin 25 = .ok (.if_icmp .ge 19, 3) := by decide +kernel
theorem dX3_begin_28 : decode cX3_begin 28 = .ok (.iload 4, 2) := by decide +kernel
theorem dX3_begin_30 : decode cX3_begin 30 = .ok (.ifCond .le 14, 3) := by decide +kernel
theorem dX3_begin_33 : decode cX3_begin 33 = .ok (.iload 4, 2) := by decide +kernel
theorem dX3_begin_35 : decode cX3_begin 35 = .ok (.bipush 17, 2) := by decide +kernel
theorem dX3_begin_37 : decode cX3_begin 37 = .ok (.if_icmp .ge 7, 3) := by decide +kernel
theorem dX3_begin_40 : decode cX3_begin 40 = .ok (.iconst 1, 1) := by decide +kernel
theorem dX3_begin_41 : decode cX3_begin 41 = .ok (.goto 4, 3) := by decide +kernel
theorem dX3_begin_44 : decode cX3_begin 44 = .ok (.iconst 0, 1) := by decide +kernel
theorem dX3_begin_45 : decode cX3_begin 45 = .ok (.istore 5, 2) := by decide +kernel
theorem dX3_begin_47 : decode cX3_begin 47 = .ok (.iload 5, 2) := by decide +kernel
theorem dX3_begin_49 : decode cX3_begin 49 = .ok (.ifCond .ne 5, 3) := by decide +kernel
theorem dX3_begin_52 : decode cX3_begin 52 = .ok (.iconst 0, 1) := by decide +kernel
theorem dX3_begin_53 : decode cX3_begin 53 = .ok (.ireturn, 1) := by decide +kernel
theorem dX3_begin_54 : decode cX3_begin 54 = .ok (.aload_n 0, 1) := by decide +kernel
theorem dX3_begin_55 : decode cX3_begin 55 = .ok (.getfield 7, 3) := by decide +kernel
theorem dX3_begin_58 : decode cX3_begin 58 = .ok (.iconst 0, 1) := by decide +kernel
theorem dX3_begin_59 : decode cX3_begin 59 = .ok (.iload_n 1, 1) := by decide +kernel
theorem dX3_begin_60 : decode cX3_begin 60 = .ok (.iastore, 1) := by decide +kernel
theorem dX3_begin_61 : decode cX3_begin 61 = .ok (.aload_n 0, 1) := by decide +kernel
theorem dX3_begin_62 : decode cX3_begin 62 = .ok (.getfield 7, 3) := by decide +kernel
theorem dX3_begin_65 : decode cX3_begin 65 = .ok (.iconst 1, 1) := by decide +kernel
theorem dX3_begin_66 : decode cX3_begin 66 = .ok (.iload_n 3, 1) := by decide +kernel
theorem dX3_begin_67 : decode cX3_begin 67 = .ok (.iastore, 1) := by decide +kernel
theorem dX3_begin_68 : decode cX3_begin 68 = .ok (.aload_n 0, 1) := by decide +kernel
theorem dX3_begin_69 : decode cX3_begin 69 = .ok (.getfield 13, 3) := by decide +kernel
theorem dX3_begin_72 : decode cX3_begin 72 = .ok (.iconst 0, 1) := by decide +kernel
theorem dX3_begin_73 : decode cX3_begin 73 = .ok (.iload_n 2, 1) := by decide +kernel
theorem dX3_begin_74 : decode cX3_begin 74 = .ok (.iastore, 1) := by decide +kernel
theorem dX3_begin_75 : decode cX3_begin 75 = .ok (.aload_n 0, 1) := by decide +kernel
theorem dX3_begin_76 : decode cX3_begin 76 = .ok (.getfield 13, 3) := by decide +kernel
theorem dX3_begin_79 : decode cX3_begin 79 = .ok (.iconst 1, 1) := by decide +kernel
theorem dX3_begin_80 : decode cX3_begin 80 = .ok (.iload 4, 2) := by decide +kernel
theorem dX3_begin_82 : decode cX3_begin 82 = .ok (.iastore, 1) := by decide +kernel
theorem dX3_begin_83 : decode cX3_begin 83 = .ok (.iconst 0, 1) := by decide +kernel
theorem dX3_begin_84 : decode cX3_begin 84 = .ok (.istore 6, 2) := by decide +kernel
theorem dX3_begin_86 : decode cX3_begin 86 = .ok (.iload 6, 2) := by decide +kernel
theorem dX3_begin_88 : decode cX3_begin 88 = .ok (.bipush 8, 2) := by decide +kernel
theorem dX3_begin_90 : decode cX3_begin 90 = .ok (.if_icmp .ge 17, 3) := by decide +kernel
theorem dX3_begin_93 : decode cX3_begin 93 = .ok (.aload_n 0, 1) := by decide +kernel
theorem dX3_begin_94 : decode cX3_begin 94 = .ok (.getfield 19, 3) := by decide +kernel
theorem dX3_begin_97 : decode cX3_begin 97 = .ok (.iload 6, 2) := by decide +kernel
theorem dX3_begin_99 : decode cX3_begin 99 = .ok (.iconst 0, 1) := by decide +kernel
theorem dX3_begin_100 : decode cX3_begin 100 = .ok (.iastore, 1) := by decide +kernel
theorem dX3_begin_101 : decode cX3_begin 101 = .ok (.iinc 6 1, 3) := by decide +kernel
theorem dX3_begin_104 : decode cX3_begin 104 = .ok (.goto (-18), 3) := by decide +kernel
theorem dX3_begin_107 : decode cX3_begin 107 = .ok (.iconst 0, 1) := by decide +kernel
theorem dX3_begin_108 : decode cX3_begin 108 = .ok (.istore 6, 2) := by decide +kernel
theorem dX3_begin_110 : decode cX3_begin 110 = .ok (.iload 6, 2) := by decide +kernel
theorem dX3_begin_112 : decode cX3_begin 112 = .ok (.sipush 128, 3) := by decide +kernel
theorem dX3_begin_115 : decode cX3_begin 115 = .ok (.if_icmp .ge 25, 3) := by decide +kernel
theorem dX3_begin_118 : decode cX3_begin 118 = .ok (.aload_n 0, 1) := by decide +kernel
theorem dX3_begin_119 : decode cX3_begin 119 = .ok (.getfield 25, 3) := by decide +kernel
theorem dX3_begin_122 : decode cX3_begin 122 = .ok (.iload 6, 2) := by decide +kernel
theorem dX3_begin_124 : decode cX3_begin 124 = .ok (.iconst 0, 1) := by decide +kernel
theorem dX3_begin_125 : decode cX3_begin 125 = .ok (.bastore, 1) := by decide +kernel
theorem dX3_begin_126 : decode cX3_begin 126 = .ok (.aload_n 0, 1) := by decide +kernel
theorem dX3_begin_127 : decode cX3_begin 127 = .ok (.getfield 29, 3) := by decide +kernel
theorem dX3_begin_130 : decode cX3_begin 130 = .ok (.iload 6, 2) := by decide +kernel
theorem dX3_begin_132 : decode cX3_begin 132 = .ok (.iconst 0, 1) := by decide +kernel
theorem dX3_begin_133 : decode cX3_begin 133 = .ok (.bastore, 1) := by decide +kernel
theorem dX3_begin_134 : decode cX3_begin 134 = .ok (.iinc 6 1, 3) := by decide +kernel
theorem dX3_begin_137 : decode cX3_begin 137 = .ok (.goto (-27), 3) := by decide +kernel
theorem dX3_begin_140 : decode cX3_begin 140 = .ok (.iconst 0, 1) := by decide +kernel
theorem dX3_begin_141 : decode cX3_begin 141 = .ok (.istore 6, 2) := by decide +kernel
theorem dX3_begin_143 : decode cX3_begin 143 = .ok (.iload 6, 2) := by decide +kernel
theorem dX3_begin_145 : decode cX3_begin 145 = .ok (.bipush 6, 2) := by decide +kernel
theorem dX3_begin_147 : decode cX3_begin 147 = .ok (.if_icmp .ge 17, 3) := by decide +kernel
theorem dX3_begin_150 : decode cX3_begin 150 = .ok (.aload_n 0, 1) := by decide +kernel
theorem dX3_begin_151 : decode cX3_begin 151 = .ok (.getfield 32, 3) := by decide +kernel
theorem dX3_begin_154 : decode cX3_begin 154 = .ok (.iload 6, 2) := by decide +kernel
theorem dX3_begin_156 : decode cX3_begin 156 = .ok (.iconst 0, 1) := by decide +kernel
theorem dX3_begin_157 : decode cX3_begin 157 = .ok (.iastore, 1) := by decide +kernel
theorem dX3_begin_158 : decode cX3_begin 158 = .ok (.iinc 6 1, 3) := by decide +kernel
theorem dX3_begin_161 : decode cX3_begin 161 = .ok (.goto (-18), 3) := by decide +kernel
theorem dX3_begin_164 : decode cX3_begin 164 = .ok (.aload_n 0, 1) := by decide +kernel
theorem dX3_begin_165 : decode cX3_begin 165 = .ok (.getfield 16, 3) := by decide +kernel
theorem dX3_begin_168 : decode cX3_begin 168 = .ok (.iconst 0, 1) := by decide +kernel
theorem dX3_begin_169 : decode cX3_begin 169 = .ok (.iconst 0, 1) := by decide +kernel
theorem dX3_begin_170 : decode cX3_begin 170 = .ok (.iastore, 1) := by decide +kernel
theorem dX3_begin_171 : decode cX3_begin 171 = .ok (.aload_n 0, 1) := by decide +kernel
theorem dX3_begin_172 : decode cX3_begin 172 = .ok (.getfield 16, 3) := by decide +kernel
theorem dX3_begin_175 : decode cX3_begin 175 = .ok (.iconst 1, 1) := by decide +kernel
theorem dX3_begin_176 : decode cX3_begin 176 = .ok (.iconst 0, 1) := by decide +kernel
theorem dX3_begin_177 : decode cX3_begin 177 = .ok (.iastore, 1) := by decide +kernel
theorem dX3_begin_178 : decode cX3_begin 178 = .ok (.aload_n 0, 1) := by decide +kernel
theorem dX3_begin_179 : decode cX3_begin 179 = .ok (.iconst 0, 1) := by decide +kernel
theorem dX3_begin_180 : decode cX3_begin 180 = .ok (.putfield 35, 3) := by decide +kernel
theorem dX3_begin_183 : decode cX3_begin 183 = .ok (.aload_n 0, 1) := by decide +kernel
theorem dX3_begin_184 : decode cX3_begin 184 = .ok (.iconst 0, 1) := by decide +kernel
theorem dX3_begin_185 : decode cX3_begin 185 = .ok (.putfield 39, 3) := by decide +kernel
theorem dX3_begin_188 : decode cX3_begin 188 = .ok (.iconst 1, 1) := by decide +kernel
theorem dX3_begin_189 : decode cX3_begin 189 = .ok (.ireturn, 1) := by decide +kernel
theorem dX3_placeIn_0 : decode cX3_placeIn 0 = .ok (.iconst 0, 1) := by decide +kernel
theorem dX3_placeIn_1 : decode cX3_placeIn 1 = .ok (.istore_n 3, 1) := by decide +kernel
theorem dX3_placeIn_2 : decode cX3_placeIn 2 = .ok (.iload_n 3, 1) := by decide +kernel
theorem dX3_placeIn_3 : decode cX3_placeIn 3 = .ok (.aload_n 0, 1) := by decide +kernel
theorem dX3_placeIn_4 : decode cX3_placeIn 4 = .ok (.getfield 19, 3) := by decide +kernel
theorem dX3_placeIn_7 : decode cX3_placeIn 7 = .ok (.iload_n 1, 1) := by decide +kernel
theorem dX3_placeIn_8 : decode cX3_placeIn 8 = .ok (.iaload, 1) := by decide +kernel
theorem dX3_placeIn_9 : decode cX3_placeIn 9 = .ok (.if_icmp .ge 25, 3) := by decide +kernel
theorem dX3_placeIn_12 : decode cX3_placeIn 12 = .ok (.aload_n 0, 1) := by decide +kernel
theorem dX3_placeIn_13 : decode cX3_placeIn 13 = .ok (.getfield 22, 3) := by decide +kernel
theorem dX3_placeIn_16 : decode cX3_placeIn 16 = .ok (.bipush 20, 2) := by decide +kernel
theorem dX3_placeIn_18 : decode cX3_placeIn 18 = .ok (.iload_n 1, 1) := by decide +kernel
theorem dX3_placeIn_19 : decode cX3_placeIn 19 = .ok (.imul, 1) := by decide +kernel
theorem dX3_placeIn_20 : decode cX3_placeIn 20 = .ok (.iload_n 3, 1) := by decide +kernel
theorem dX3_placeIn_21 : decode cX3_placeIn 21 = .ok (.iadd, 1) := by decide +kernel
theorem dX3_placeIn_22 : decode cX3_placeIn 22 = .ok (.iaload, 1) := by decide +kernel
theorem dX3_placeIn_23 : decode cX3_placeIn 23 = .ok (.iload_n 2, 1) := by decide +kernel
theorem dX3_placeIn_24 : decode cX3_placeIn 24 = .ok (.if_icmp .eq 10, 3) := by decide +kernel
theorem dX3_placeIn_27 : decode cX3_placeIn 27 = .ok (.iload_n 3, 1) := by decide +kernel
theorem dX3_placeIn_28 : decode cX3_placeIn 28 = .ok (.iconst 1, 1) := by decide +kernel
theorem dX3_placeIn_29 : decode cX3_placeIn 29 = .ok (.iadd, 1) := by decide +kernel
theorem dX3_placeIn_30 : decode cX3_placeIn 30 = .ok (.istore_n 3, 1) := by decide +kernel
theorem dX3_placeIn_31 : decode cX3_placeIn 31 = .ok (.goto (-29), 3) := by decide +kernel
theorem dX3_placeIn_34 : decode cX3_placeIn 34 = .ok (.iload_n 3, 1) := by decide +kernel
theorem dX3_placeIn_35 : decode cX3_placeIn 35 = .ok (.aload_n 0, 1) := by decide +kernel
theorem dX3_placeIn_36 : decode cX3_placeIn 36 = .ok (.getfield 19, 3) := by decide +kernel
theorem dX3_placeIn_39 : decode cX3_placeIn 39 = .ok (.iload_n 1, 1) := by decide +kernel
theorem dX3_placeIn_40 : decode cX3_placeIn 40 = .ok (.iaload, 1) := by decide +kernel
theorem dX3_placeIn_41 : decode cX3_placeIn 41 = .ok (.if_icmp .ge 7, 3) := by decide +kernel
theorem dX3_placeIn_44 : decode cX3_placeIn 44 = .ok (.iload_n 3, 1) := by decide +kernel
theorem dX3_placeIn_45 : decode cX3_placeIn 45 = .ok (.goto 4, 3) := by decide +kernel
theorem dX3_placeIn_48 : decode cX3_placeIn 48 = .ok (.iconst (-1), 1) := by decide +kernel
theorem dX3_placeIn_49 : decode cX3_placeIn 49 = .ok (.ireturn, 1) := by decide +kernel
set_option maxRecDepth 20000 in
theorem ggX3_isIn_X3_placeIn : GoodIn wsX3_isIn wsX3_placeIn := goodIn_r _ [5, 6, 7, 8, 9, 10, 11, 12, 13, 14, 15, 16, 17, 18] (by decide +kernel) (by decide +kernel)
set_option maxRecDepth 20000 in
theorem gX3_isIn_X3_placeIn : GoodIn wsX3_isIn (wsV RX3 42 RX3 yX3_placeIn wsX3_placeIn) := goodIn_app (goodIn_of _ (by decide +kernel)) ggX3_isIn_X3_placeIn
theorem dX3_isIn_0 : decode cX3_isIn 0 = .ok (.aload_n 0, 1) := by decide +kernel
theorem dX3_isIn_1 : decode cX3_isIn 1 = .ok (.iload_n 1, 1) := by decide +kernel
theorem dX3_isIn_2 : decode cX3_isIn 2 = .ok (.iload_n 2, 1) := by decide +kernel
theorem dX3_isIn_3 : decode cX3_isIn 3 = .ok (.invokevirtual 42, 3) := by decide +kernel
theorem dX3_isIn_6 : decode cX3_isIn 6 = .ok (.ifCond .lt 7, 3) := by decide +kernel
theorem dX3_isIn_9 : decode cX3_isIn 9 = .ok (.iconst 1, 1) := by decide +kernel
theorem dX3_isIn_10 : decode cX3_isIn 10 = .ok (.goto 4, 3) := by decide +kernel
theorem dX3_isIn_13 : decode cX3_isIn 13 = .ok (.iconst 0, 1) := by decide +kernel
theorem dX3_isIn_14 : decode cX3_isIn 14 = .ok (.ireturn, 1) := by decide +kernel
set_option maxRecDepth 20000 in
theorem ggX3_takeOut_X3_placeIn : GoodIn wsX3_takeOut wsX3_placeIn := goodIn_r _ [7, 1, 2, 8, 9, 10, 11, 12, 13, 14, 15, 16, 17, 18] (by decide +kernel) (by decide +kernel)
set_option maxRecDepth 20000 in
theorem gX3_takeOut_X3_placeIn : GoodIn wsX3_takeOut (wsV RX3 42 RX3 yX3_placeIn wsX3_placeIn) := goodIn_app (goodIn_of _ (by decide +kernel)) ggX3_takeOut_X3_placeIn
theorem dX3_takeOut_0 : decode cX3_takeOut 0 = .ok (.aload_n 0, 1) := by decide +kernel
theorem dX3_takeOut_1 : decode cX3_takeOut 1 = .ok (.iload_n 1, 1) := by decide +kernel
theorem dX3_takeOut_2 : decode cX3_takeOut 2 = .ok (.iload_n 2, 1) := by decide +kernel
theorem dX3_takeOut_3 : decode cX3_takeOut 3 = .ok (.invokevirtual 42, 3) := by decide +kernel
theorem dX3_takeOut_6 : decode cX3_takeOut 6 = .ok (.istore_n 3, 1) := by decide +kernel
theorem dX3_takeOut_7 : decode cX3_takeOut 7 = .ok (.aload_n 0, 1) := by decide +kernel
theorem dX3_takeOut_8 : decode cX3_takeOut 8 = .ok (.getfield 19, 3) := by decide +kernel
theorem dX3_takeOut_11 : decode cX3_takeOut 11 = .ok (.iload_n 1, 1) := by decide +kernel
theorem dX3_takeOut_12 : decode cX3_takeOut 12 = .ok (.aload_n 0, 1) := by decide +kernel
theorem dX3_takeOut_13 : decode cX3_takeOut 13 = .ok (.getfield 19, 3) := by decide +kernel
theorem dX3_takeOut_16 : decode cX3_takeOut 16 = .ok (.iload_n 1, 1) := by decide +kernel
theorem dX3_takeOut_17 : decode cX3_takeOut 17 = .ok (.iaload, 1) := by decide +kernel
theorem dX3_takeOut_18 : decode cX3_takeOut 18 = .ok (.iconst 1, 1) := by decide +kernel
theorem dX3_takeOut_19 : decode cX3_takeOut 19 = .ok (.isub, 1) := by decide +kernel
theorem dX3_takeOut_20 : decode cX3_takeOut 20 = .ok (.iastore, 1) := by decide +kernel
theorem dX3_takeOut_21 : decode cX3_takeOut 21 = .ok (.iload_n 3, 1) := by decide +kernel
theorem dX3_takeOut_22 : decode cX3_takeOut 22 = .ok (.istore 4, 2) := by decide +kernel
theorem dX3_takeOut_24 : decode cX3_takeOut 24 = .ok (.iload 4, 2) := by decide +kernel
theorem dX3_takeOut_26 : decode cX3_takeOut 26 = .ok (.aload_n 0, 1) := by decide +kernel
theorem dX3_takeOut_27 : decode cX3_takeOut 27 = .ok (.getfield 19, 3) := by decide +kernel
theorem dX3_takeOut_30 : decode cX3_takeOut 30 = .ok (.iload_n 1, 1) := by decide +kernel
theorem dX3_takeOut_31 : decode cX3_takeOut 31 = .ok (.iaload, 1) := by decide +kernel
theorem dX3_takeOut_32 : decode cX3_takeOut 32 = .ok (.if_icmp .ge 35, 3) := by decide +kernel
theorem dX3_takeOut_35 : decode cX3_takeOut 35 = .ok (.aload_n 0, 1) := by decide +kernel
theorem dX3_takeOut_36 : decode cX3_takeOut 36 = .ok (.getfield 22, 3) := by decide +kernel
theorem dX3_takeOut_39 : decode cX3_takeOut 39 = .ok (.bipush 20, 2) := by decide +kernel
theorem dX3_takeOut_41 : decode cX3_takeOut 41 = .ok (.iload_n 1, 1) := by decide +kernel
theorem dX3_takeOut_42 : decode cX3_takeOut 42 = .ok (.imul, 1) := by decide +kernel
theorem dX3_takeOut_43 : decode cX3_takeOut 43 = .ok (.iload 4, 2) := by decide +kernel
theorem dX3_takeOut_45 : decode cX3_takeOut 45 = .ok (.iadd, 1) := by decide +kernel
theorem dX3_takeOut_46 : decode cX3_takeOut 46 = .ok (.aload_n 0, 1) := by decide +kernel
theorem dX3_takeOut_47 : decode cX3_takeOut 47 = .ok (.getfield 22, 3) := by decide +kernel
theorem dX3_takeOut_50 : decode cX3_takeOut 50 = .ok (.bipush 20, 2) := by decide +kernel
theorem dX3_takeOut_52 : decode cX3_takeOut 52 = .ok (.iload_n 1, 1) := by decide +kernel
theorem dX3_takeOut_53 : decode cX3_takeOut 53 = .ok (.imul, 1) := by decide +kernel
theorem dX3_takeOut_54 : decode cX3_takeOut 54 = .ok (.iload 4, 2) := by decide +kernel
theorem dX3_takeOut_56 : decode cX3_takeOut 56 = .ok (.iadd, 1) := by decide +kernel
theorem dX3_takeOut_57 : decode cX3_takeOut 57 = .ok (.iconst 1, 1) := by decide +kernel
theorem dX3_takeOut_58 : decode cX3_takeOut 58 = .ok (.iadd, 1) := by decide +kernel
theorem dX3_takeOut_59 : decode cX3_takeOut 59 = .ok (.iaload, 1) := by decide +kernel
theorem dX3_takeOut_60 : decode cX3_takeOut 60 = .ok (.iastore, 1) := by decide +kernel
theorem dX3_takeOut_61 : decode cX3_takeOut 61 = .ok (.iinc 4 1, 3) := by decide +kernel
theorem dX3_takeOut_64 : decode cX3_takeOut 64 = .ok (.goto (-40), 3) := by decide +kernel
theorem dX3_takeOut_67 : decode cX3_takeOut 67 = .ok (.return_, 1) := by decide +kernel
theorem dX3_toHead_0 : decode cX3_toHead 0 = .ok (.aload_n 0, 1) := by decide +kernel
theorem dX3_toHead_1 : decode cX3_toHead 1 = .ok (.getfield 19, 3) := by decide +kernel
theorem dX3_toHead_4 : decode cX3_toHead 4 = .ok (.iload_n 1, 1) := by decide +kernel
theorem dX3_toHead_5 : decode cX3_toHead 5 = .ok (.iaload, 1) := by decide +kernel
theorem dX3_toHead_6 : decode cX3_toHead 6 = .ok (.istore_n 3, 1) := by decide +kernel
theorem dX3_toHead_7 : decode cX3_toHead 7 = .ok (.iload_n 3, 1) := by decide +kernel
theorem dX3_toHead_8 : decode cX3_toHead 8 = .ok (.ifCond .le 33, 3) := by decide +kernel
theorem dX3_toHead_11 : decode cX3_toHead 11 = .ok (.aload_n 0, 1) := by decide +kernel
theorem dX3_toHead_12 : decode cX3_toHead 12 = .ok (.getfield 22, 3) := by decide +kernel
theorem dX3_toHead_15 : decode cX3_toHead 15 = .ok (.bipush 20, 2) := by decide +kernel
theorem dX3_toHead_17 : decode cX3_toHead 17 = .ok (.iload_n 1, 1) := by decide +kernel
theorem dX3_toHead_18 : decode cX3_toHead 18 = .ok (.imul, 1) := by decide +kernel
theorem dX3_toHead_19 : decode cX3_toHead 19 = .ok (.iload_n 3, 1) := by decide +kernel
theorem dX3_toHead_20 : decode cX3_toHead 20 = .ok (.iadd, 1) := by decide +kernel
theorem dX3_toHead_21 : decode cX3_toHead 21 = .ok (.aload_n 0, 1) := by decide +kernel
theorem dX3_toHead_22 : decode cX3_toHead 22 = .ok (.getfield 22, 3) := by decide +kernel
theorem dX3_toHead_25 : decode cX3_toHead 25 = .ok (.bipush 20, 2) := by decide +kernel
theorem dX3_toHead_27 : decode cX3_toHead 27 = .ok (.iload_n 1, 1) := by decide +kernel
theorem dX3_toHead_28 : decode cX3_toHead 28 = .ok (.imul, 1) := by decide +kernel
theorem dX3_toHead_29 : decode cX3_toHead 29 = .ok (.iload_n 3, 1) := by decide +kernel
theorem dX3_toHead_30 : decode cX3_toHead 30 = .ok (.iadd, 1) := by decide +kernel
theorem dX3_toHead_31 : decode cX3_toHead 31 = .ok (.iconst 1, 1) := by decide +kernel
theorem dX3_toHead_32 : decode cX3_toHead 32 = .ok (.isub, 1) := by decide +kernel
theorem dX3_toHead_33 : decode cX3_toHead 33 = .ok (.iaload, 1) := by decide +kernel
theorem dX3_toHead_34 : decode cX3_toHead 34 = .ok (.iastore, 1) := by decide +kernel
theorem dX3_toHead_35 : decode cX3_toHead 35 = .ok (.iinc 3 (-1), 3) := by decide +kernel
theorem dX3_toHead_38 : decode cX3_toHead 38 = .ok (.goto (-31), 3) := by decide +kernel
theorem dX3_toHead_41 : decode cX3_toHead 41 = .ok (.aload_n 0, 1) := by decide +kernel
theorem dX3_toHead_42 : decode cX3_toHead 42 = .ok (.getfield 22, 3) := by decide +kernel
theorem dX3_toHead_45 : decode cX3_toHead 45 = .ok (.bipush 20, 2) := by decide +kernel
theorem dX3_toHead_47 : decode cX3_toHead 47 = .ok (.iload_n 1, 1) := by decide +kernel
theorem dX3_toHead_48 : decode cX3_toHead 48 = .ok (.imul, 1) := by decide +kernel
theorem dX3_toHead_49 : decode cX3_toHead 49 = .ok (.iload_n 2, 1) := by decide +kernel
theorem dX3_toHead_50 : decode cX3_toHead 50 = .ok (.iastore, 1) := by decide +kernel
theorem dX3_toHead_51 : decode cX3_toHead 51 = .ok (.aload_n 0, 1) := by decide +kernel
theorem dX3_toHead_52 : decode cX3_toHead 52 = .ok (.getfield 19, 3) := by decide +kernel
theorem dX3_toHead_55 : decode cX3_toHead 55 = .ok (.iload_n 1, 1) := by decide +kernel
theorem dX3_toHead_56 : decode cX3_toHead 56 = .ok (.aload_n 0, 1) := by decide +kernel
theorem dX3_toHead_57 : decode cX3_toHead 57 = .ok (.getfield 19, 3) := by decide +kernel
theorem dX3_toHead_60 : decode cX3_toHead 60 = .ok (.iload_n 1, 1) := by decide +kernel
theorem dX3_toHead_61 : decode cX3_toHead 61 = .ok (.iaload, 1) := by decide +kernel
theorem dX3_toHead_62 : decode cX3_toHead 62 = .ok (.iconst 1, 1) := by decide +kernel
theorem dX3_toHead_63 : decode cX3_toHead 63 = .ok (.iadd, 1) := by decide +kernel
theorem dX3_toHead_64 : decode cX3_toHead 64 = .ok (.iastore, 1) := by decide +kernel
theorem dX3_toHead_65 : decode cX3_toHead 65 = .ok (.return_, 1) := by decide +kernel
theorem dX3_toTail_0 : decode cX3_toTail 0 = .ok (.aload_n 0, 1) := by decide +kernel
theorem dX3_toTail_1 : decode cX3_toTail 1 = .ok (.getfield 22, 3) := by decide +kernel
theorem dX3_toTail_4 : decode cX3_toTail 4 = .ok (.bipush 20, 2) := by decide +kernel
theorem dX3_toTail_6 : decode cX3_toTail 6 = .ok (.iload_n 1, 1) := by decide +kernel
theorem dX3_toTail_7 : decode cX3_toTail 7 = .ok (.imul, 1) := by decide +kernel
theorem dX3_toTail_8 : decode cX3_toTail 8 = .ok (.aload_n 0, 1) := by decide +kernel
theorem dX3_toTail_9 : decode cX3_toTail 9 = .ok (.getfield 19, 3) := by decide +kernel
theorem dX3_toTail_12 : decode cX3_toTail 12 = .ok (.iload_n 1, 1) := by decide +kernel
theorem dX3_toTail_13 : decode cX3_toTail 13 = .ok (.iaload, 1) := by decide +kernel
theorem dX3_toTail_14 : decode cX3_toTail 14 = .ok (.iadd, 1) := by decide +kernel
theorem dX3_toTail_15 : decode cX3_toTail 15 = .ok (.iload_n 2, 1) := by decide +kernel
theorem dX3_toTail_16 : decode cX3_toTail 16 = .ok (.iastore, 1) := by decide +kernel
theorem dX3_toTail_17 : decode cX3_toTail 17 = .ok (.aload_n 0, 1) := by decide +kernel
theorem dX3_toTail_18 : decode cX3_toTail 18 = .ok (.getfield 19, 3) := by decide +kernel
theorem dX3_toTail_21 : decode cX3_toTail 21 = .ok (.iload_n 1, 1) := by decide +kernel
theorem dX3_toTail_22 : decode cX3_toTail 22 = .ok (.aload_n 0, 1) := by decide +kernel
theorem dX3_toTail_23 : decode cX3_toTail 23 = .ok (.getfield 19, 3) := by decide +kernel
theorem dX3_toTail_26 : decode cX3_toTail 26 = .ok (.iload_n 1, 1) := by decide +kernel
theorem dX3_toTail_27 : decode cX3_toTail 27 = .ok (.iaload, 1) := by decide +kernel
theorem dX3_toTail_28 : decode cX3_toTail 28 = .ok (.iconst 1, 1) := by decide +kernel
theorem dX3_toTail_29 : decode cX3_toTail 29 = .ok (.iadd, 1) := by decide +kernel
theorem dX3_toTail_30 : decode cX3_toTail 30 = .ok (.iastore, 1) := by decide +kernel
theorem dX3_toTail_31 : decode cX3_toTail 31 = .ok (.return_, 1) := by decide +kernel
theorem dX3_cutTail_0 : decode cX3_cutTail 0 = .ok (.aload_n 0, 1) := by decide +kernel
theorem dX3_cutTail_1 : decode cX3_cutTail 1 = .ok (.getfield 19, 3) := by decide +kernel
theorem dX3_cutTail_4 : decode cX3_cutTail 4 = .ok (.iload_n 1, 1) := by decide +kernel
theorem dX3_cutTail_5 : decode cX3_cutTail 5 = .ok (.aload_n 0, 1) := by decide +kernel
theorem dX3_cutTail_6 : decode cX3_cutTail 6 = .ok (.getfield 19, 3) := by decide +kernel
theorem dX3_cutTail_9 : decode cX3_cutTail 9 = .ok (.iload_n 1, 1) := by decide +kernel
theorem dX3_cutTail_10 : decode cX3_cutTail 10 = .ok (.iaload, 1) := by decide +kernel
theorem dX3_cutTail_11 : decode cX3_cutTail 11 = .ok (.iconst 1, 1) := by decide +kernel
theorem dX3_cutTail_12 : decode cX3_cutTail 12 = .ok (.isub, 1) := by decide +kernel
theorem dX3_cutTail_13 : decode cX3_cutTail 13 = .ok (.iastore, 1) := by decide +kernel
theorem dX3_cutTail_14 : decode cX3_cutTail 14 = .ok (.aload_n 0, 1) := by decide +kernel
theorem dX3_cutTail_15 : decode cX3_cutTail 15 = .ok (.getfield 22, 3) := by decide +kernel
theorem dX3_cutTail_18 : decode cX3_cutTail 18 = .ok (.bipush 20, 2) := by decide +kernel
theorem dX3_cutTail_20 : decode cX3_cutTail 20 = .ok (.iload_n 1, 1) := by decide +kernel
theorem dX3_cutTail_21 : decode cX3_cutTail 21 = .ok (.imul, 1) := by decide +kernel
theorem dX3_cutTail_22 : decode cX3_cutTail 22 = .ok (.aload_n 0, 1) := by decide +kernel
theorem dX3_cutTail_23 : decode cX3_cutTail 23 = .ok (.getfield 19, 3) := by decide +kernel
theorem dX3_cutTail_26 : decode cX3_cutTail 26 = .ok (.iload_n 1, 1) := by decide +kernel
theorem dX3_cutTail_27 : decode cX3_cutTail 27 = .ok (.iaload, 1) := by decide +kernel
theorem dX3_cutTail_28 : decode cX3_cutTail 28 = .ok (.iadd, 1) := by decide +kernel
theorem dX3_cutTail_29 : decode cX3_cutTail 29 = .ok (.iaload, 1) := by decide +kernel
theorem dX3_cutTail_30 : decode cX3_cutTail 30 = .ok (.ireturn, 1) := by decide +kernel
set_option maxRecDepth 20000 in
theorem ggX3_move_X3_takeOut : GoodIn wsX3_move wsX3_takeOut := goodIn_r _ [5, 6, 7, 8, 9, 10, 4, 11, 16, 17, 18, 19, 20, 21, 22, 23, 24, 25, 26] (by decide +kernel) (by decide +kernel)
set_option maxRecDepth 20000 in
theorem gX3_move_X3_takeOut : GoodIn wsX3_move (wsV RX3 46 RX3 yX3_takeOut wsX3_takeOut) := goodIn_app (goodIn_of _ (by decide +kernel)) ggX3_move_X3_takeOut
set_option maxRecDepth 20000 in
theorem ggX3_move_X3_toHead : GoodIn wsX3_move wsX3_toHead := goodIn_r _ [15, 6, 7, 16, 17, 18, 19, 20, 21, 22, 23, 24, 25, 26] (by decide +kernel) (by decide +kernel)
set_option maxRecDepth 20000 in
theorem gX3_move_X3_toHead : GoodIn wsX3_move (wsV RX3 50 RX3 yX3_toHead wsX3_toHead) := goodIn_app (goodIn_of _ (by decide +kernel)) ggX3_move_X3_toHead
theorem dX3_move_0 : decode cX3_move 0 = .ok (.aload_n 0, 1) := by decide +kernel
theorem dX3_move_1 : decode cX3_move 1 = .ok (.iload_n 1, 1) := by decide +kernel
theorem dX3_move_2 : decode cX3_move 2 = .ok (.iload_n 3, 1) := by decide +kernel
theorem dX3_move_3 : decode cX3_move 3 = .ok (.invokevirtual 46, 3) := by decide +kernel
theorem dX3_move_6 : decode cX3_move 6 = .ok (.aload_n 0, 1) := by decide +kernel
theorem dX3_move_7 : decode cX3_move 7 = .ok (.iload_n 2, 1) := by decide +kernel
theorem dX3_move_8 : decode cX3_move 8 = .ok (.iload_n 3, 1) := by decide +kernel
theorem dX3_move_9 : decode cX3_move 9 = .ok (.invokevirtual 50, 3) := by decide +kernel
theorem dX3_move_12 : decode cX3_move 12 = .ok (.return_, 1) := by decide +kernel
set_option maxRecDepth 20000 in
theorem ggX3_recent_X3_isIn : GoodIn wsX3_recent wsX3_isIn := goodIn_r _ [8, 9, 10, 11, 7, 12, 1, 13, 30, 31, 32, 33, 34, 35, 36, 37, 38, 39, 40] (by decide +kernel) (by decide +kernel)
set_option maxRecDepth 20000 in
theorem gX3_recent_X3_isIn : GoodIn wsX3_recent (wsV RX3 53 RX3 yX3_isIn wsX3_isIn) := goodIn_app (goodIn_of _ (by decide +kernel)) ggX3_recent_X3_isIn
set_option maxRecDepth 20000 in
theorem ggX3_recent_X3_move : GoodIn wsX3_recent wsX3_move := goodIn_r _ [17, 18, 19, 20, 7, 21, 1, 13, 9, 10, 11, 12, 22, 23, 24, 25, 30, 31, 32, 33, 34, 35, 36, 37, 38, 39, 40] (by decide +kernel) (by decide +kernel)
set_option maxRecDepth 20000 in
theorem gX3_recent_X3_move : GoodIn wsX3_recent (wsV RX3 57 RX3 yX3_move wsX3_move) := goodIn_app (goodIn_of _ (by decide +kernel)) ggX3_recent_X3_move
set_option maxRecDepth 20000 in
theorem ggX3_recent_X3_cutTail : GoodIn wsX3_recent wsX3_cutTail := goodIn_r _ [29, 1, 13, 30, 31, 32, 33, 34, 35, 36, 37, 38, 39, 40] (by decide +kernel) (by decide +kernel)
set_option maxRecDepth 20000 in
theorem gX3_recent_X3_cutTail : GoodIn wsX3_recent (wsV RX3 61 RX3 yX3_cutTail wsX3_cutTail) := goodIn_app (goodIn_of _ (by decide +kernel)) ggX3_recent_X3_cutTail
set_option maxRecDepth 20000 in
theorem ggX3_recent_X3_toHead : GoodIn wsX3_recent wsX3_toHead := goodIn_r _ [25, 1, 13, 30, 31, 32, 33, 34, 35, 36, 37, 38, 39, 40] (by decide +kernel) (by decide +kernel)
set_option maxRecDepth 20000 in
theorem gX3_recent_X3_toHead : GoodIn wsX3_recent (wsV RX3 50 RX3 yX3_toHead wsX3_toHead) := goodIn_app (goodIn_of _ (by decide +kernel)) ggX3_recent_X3_toHead
theorem dX3_recent_0 : decode cX3_recent 0 = .ok (.iconst 4, 1) := by decide +kernel
theorem dX3_recent_1 : decode cX3_recent 1 = .ok (.iload_n 1, 1) := by decide +kernel
theorem dX3_recent_2 : decode cX3_recent 2 = .ok (.imul, 1) := by decide +kernel
theorem dX3_recent_3 : decode cX3_recent 3 = .ok (.istore_n 3, 1) := by decide +kernel
theorem dX3_recent_4 : decode cX3_recent 4 = .ok (.aload_n 0, 1) := by decide +kernel
theorem dX3_recent_5 : decode cX3_recent 5 = .ok (.iload_n 3, 1) := by decide +kernel
theorem dX3_recent_6 : decode cX3_recent 6 = .ok (.iload_n 2, 1) := by decide +kernel
theorem dX3_recent_7 : decode cX3_recent 7 = .ok (.invokevirtual 53, 3) := by decide +kernel
theorem dX3_recent_10 : decode cX3_recent 10 = .ok (.ifCond .eq 12, 3) := by decide +kernel
theorem dX3_recent_13 : decode cX3_recent 13 = .ok (.aload_n 0, 1) := by decide +kernel
theorem dX3_recent_14 : decode cX3_recent 14 = .ok (.iload_n 3, 1) := by decide +kernel
theorem dX3_recent_15 : decode cX3_recent 15 = .ok (.iload_n 3, 1) := by decide +kernel
theorem dX3_recent_16 : decode cX3_recent 16 = .ok (.iload_n 2, 1) := by decide +kernel
theorem dX3_recent_17 : decode cX3_recent 17 = .ok (.invokevirtual 57, 3) := by decide +kernel
theorem dX3_recent_20 : decode cX3_recent 20 = .ok (.iconst 1, 1) := by decide +kernel
theorem dX3_recent_21 : decode cX3_recent 21 = .ok (.ireturn, 1) := by decide +kernel
theorem dX3_recent_22 : decode cX3_recent 22 = .ok (.aload_n 0, 1) := by decide +kernel
theorem dX3_recent_23 : decode cX3_recent 23 = .ok (.getfield 19, 3) := by decide +kernel
theorem dX3_recent_26 : decode cX3_recent 26 = .ok (.iload_n 3, 1) := by decide +kernel
theorem dX3_recent_27 : decode cX3_recent 27 = .ok (.iaload, 1) := by decide +kernel
theorem dX3_recent_28 : decode cX3_recent 28 = .ok (.aload_n 0, 1) := by decide +kernel
theorem dX3_recent_29 : decode cX3_recent 29 = .ok (.getfield 13, 3) := by decide +kernel
theorem dX3_recent_32 : decode cX3_recent 32 = .ok (.iload_n 1, 1) := by decide +kernel
theorem dX3_recent_33 : decode cX3_recent 33 = .ok (.iaload, 1) := by decide +kernel
theorem dX3_recent_34 : decode cX3_recent 34 = .ok (.if_icmp .ne 12, 3) := by decide +kernel
theorem dX3_recent_37 : decode cX3_recent 37 = .ok (.aload_n 0, 1) := by decide +kernel
theorem dX3_recent_38 : decode cX3_recent 38 = .ok (.aload_n 0, 1) := by decide +kernel
theorem dX3_recent_39 : decode cX3_recent 39 = .ok (.iload_n 3, 1) := by decide +kernel
theorem dX3_recent_40 : decode cX3_recent 40 = .ok (.invokevirtual 61, 3) := by decide +kernel
theorem dX3_recent_43 : decode cX3_recent 43 = .ok (.putfield 65, 3) := by decide +kernel
theorem dX3_recent_46 : decode cX3_recent 46 = .ok (.aload_n 0, 1) := by decide +kernel
theorem dX3_recent_47 : decode cX3_recent 47 = .ok (.iload_n 3, 1) := by decide +kernel
theorem dX3_recent_48 : decode cX3_recent 48 = .ok (.iload_n 2, 1) := by decide +kernel
theorem dX3_recent_49 : decode cX3_recent 49 = .ok (.invokevirtual 50, 3) := by decide +kernel
theorem dX3_recent_52 : decode cX3_recent 52 = .ok (.iconst 0, 1) := by decide +kernel
theorem dX3_recent_53 : decode cX3_recent 53 = .ok (.ireturn, 1) := by decide +kernel
set_option maxRecDepth 20000 in
theorem ggX3_clock_X3_isIn : GoodIn wsX3_clock wsX3_isIn := goodIn_r _ [10, 11, 12, 13, 9, 14, 2, 4, 23, 24, 25, 26, 27, 28, 29, 30, 31, 32, 33] (by decide +kernel) (by decide +kernel)
set_option maxRecDepth 20000 in
theorem gX3_clock_X3_isIn : GoodIn wsX3_clock (wsV RX3 53 RX3 yX3_isIn wsX3_isIn) := goodIn_app (goodIn_of _ (by decide +kernel)) ggX3_clock_X3_isIn
set_option maxRecDepth 20000 in
theorem ggX3_clock_X3_takeOut : GoodIn wsX3_clock wsX3_takeOut := goodIn_r _ [18, 2, 4, 11, 12, 13, 9, 14, 23, 24, 25, 26, 27, 28, 29, 30, 31, 32, 33] (by decide +kernel) (by decide +kernel)
set_option maxRecDepth 20000 in
theorem gX3_clock_X3_takeOut : GoodIn wsX3_clock (wsV RX3 46 RX3 yX3_takeOut wsX3_takeOut) := goodIn_app (goodIn_of _ (by decide +kernel)) ggX3_clock_X3_takeOut
set_option maxRecDepth 20000 in
theorem ggX3_clock_X3_toTail : GoodIn wsX3_clock wsX3_toTail := goodIn_r _ [22, 4, 2, 23, 24, 25, 26, 27, 28, 29, 30, 31, 32, 33] (by decide +kernel) (by decide +kernel)
set_option maxRecDepth 20000 in
theorem gX3_clock_X3_toTail : GoodIn wsX3_clock (wsV RX3 68 RX3 yX3_toTail wsX3_toTail) := goodIn_app (goodIn_of _ (by decide +kernel)) ggX3_clock_X3_toTail
theorem dX3_clock_0 : decode cX3_clock 0 = .ok (.iconst 4, 1) := by decide +kernel
theorem dX3_clock_1 : decode cX3_clock 1 = .ok (.iload_n 1, 1) := by decide +kernel
theorem dX3_clock_2 : decode cX3_clock 2 = .ok (.imul, 1) := by decide +kernel
theorem dX3_clock_3 : decode cX3_clock 3 = .ok (.istore_n 3, 1) := by decide +kernel
theorem dX3_clock_4 : decode cX3_clock 4 = .ok (.aload_n 0, 1) := by decide +kernel
theorem dX3_clock_5 : decode cX3_clock 5 = .ok (.iload_n 3, 1) := by decide +kernel
theorem dX3_clock_6 : decode cX3_clock 6 = .ok (.iload_n 2, 1) := by decide +kernel
theorem dX3_clock_7 : decode cX3_clock 7 = .ok (.invokevirtual 53, 3) := by decide +kernel
theorem dX3_clock_10 : decode cX3_clock 10 = .ok (.ifCond .eq 17, 3) := by decide +kernel
theorem dX3_clock_13 : decode cX3_clock 13 = .ok (.aload_n 0, 1) := by decide +kernel
theorem dX3_clock_14 : decode cX3_clock 14 = .ok (.getfield 25, 3) := by decide +kernel
theorem dX3_clock_17 : decode cX3_clock 17 = .ok (.bipush 64, 2) := by decide +kernel
theorem dX3_clock_19 : decode cX3_clock 19 = .ok (.iload_n 1, 1) := by decide +kernel
theorem dX3_clock_20 : decode cX3_clock 20 = .ok (.imul, 1) := by decide +kernel
theorem dX3_clock_21 : decode cX3_clock 21 = .ok (.iload_n 2, 1) := by decide +kernel
theorem dX3_clock_22 : decode cX3_clock 22 = .ok (.iadd, 1) := by decide +kernel
theorem dX3_clock_23 : decode cX3_clock 23 = .ok (.iconst 1, 1) := by decide +kernel
theorem dX3_clock_24 : decode cX3_clock 24 = .ok (.bastore, 1) := by decide +kernel
theorem dX3_clock_25 : decode cX3_clock 25 = .ok (.iconst 1, 1) := by decide +kernel
theorem dX3_clock_26 : decode cX3_clock 26 = .ok (.ireturn, 1) := by decide +kernel
theorem dX3_clock_27 : decode cX3_clock 27 = .ok (.aload_n 0, 1) := by decide +kernel
theorem dX3_clock_28 : decode cX3_clock 28 = .ok (.getfield 19, 3) := by decide +kernel
theorem dX3_clock_31 : decode cX3_clock 31 = .ok (.iload_n 3, 1) := by decide +kernel
theorem dX3_clock_32 : decode cX3_clock 32 = .ok (.iaload, 1) := by decide +kernel
theorem dX3_clock_33 : decode cX3_clock 33 = .ok (.aload_n 0, 1) := by decide +kernel
theorem dX3_clock_34 : decode cX3_clock 34 = .ok (.getfield 13, 3) := by decide +kernel
theorem dX3_clock_37 : decode cX3_clock 37 = .ok (.iload_n 1, 1) := by decide +kernel
theorem dX3_clock_38 : decode cX3_clock 38 = .ok (.iaload, 1) := by decide +kernel
theorem dX3_clock_39 : decode cX3_clock 39 = .ok (.if_icmp .ne 88, 3) := by decide +kernel
theorem dX3_clock_42 : decode cX3_clock 42 = .ok (.aload_n 0, 1) := by decide +kernel
theorem dX3_clock_43 : decode cX3_clock 43 = .ok (.getfield 25, 3) := by decide +kernel
theorem dX3_clock_46 : decode cX3_clock 46 = .ok (.bipush 64, 2) := by decide +kernel
theorem dX3_clock_48 : decode cX3_clock 48 = .ok (.iload_n 1, 1) := by decide +kernel
theorem dX3_clock_49 : decode cX3_clock 49 = .ok (.imul, 1) := by decide +kernel
theorem dX3_clock_50 : decode cX3_clock 50 = .ok (.aload_n 0, 1) := by decide +kernel
theorem dX3_clock_51 : decode cX3_clock 51 = .ok (.getfield 22, 3) := by decide +kernel
theorem dX3_clock_54 : decode cX3_clock 54 = .ok (.bipush 20, 2) := by decide +kernel
theorem dX3_clock_56 : decode cX3_clock 56 = .ok (.iload_n 3, 1) := by decide +kernel
theorem dX3_clock_57 : decode cX3_clock 57 = .ok (.imul, 1) := by decide +kernel
theorem dX3_clock_58 : decode cX3_clock 58 = .ok (.iaload, 1) := by decide +kernel
theorem dX3_clock_59 : decode cX3_clock 59 = .ok (.iadd, 1) := by decide +kernel
theorem dX3_clock_60 : decode cX3_clock 60 = .ok (.baload, 1) := by decide +kernel
theorem dX3_clock_61 : decode cX3_clock 61 = .ok (.ifCond .eq 44, 3) := by decide +kernel
theorem dX3_clock_64 : decode cX3_clock 64 = .ok (.aload_n 0, 1) := by decide +kernel
theorem dX3_clock_65 : decode cX3_clock 65 = .ok (.getfield 22, 3) := by decide +kernel
theorem dX3_clock_68 : decode cX3_clock 68 = .ok (.bipush 20, 2) := by decide +kernel
theorem dX3_clock_70 : decode cX3_clock 70 = .ok (.iload_n 3, 1) := by decide +kernel
theorem dX3_clock_71 : decode cX3_clock 71 = .ok (.imul, 1) := by decide +kernel
theorem dX3_clock_72 : decode cX3_clock 72 = .ok (.iaload, 1) := by decide +kernel
theorem dX3_clock_73 : decode cX3_clock 73 = .ok (.istore 4, 2) := by decide +kernel
theorem dX3_clock_75 : decode cX3_clock 75 = .ok (.aload_n 0, 1) := by decide +kernel
theorem dX3_clock_76 : decode cX3_clock 76 = .ok (.getfield 25, 3) := by decide +kernel
theorem dX3_clock_79 : decode cX3_clock 79 = .ok (.bipush 64, 2) := by decide +kernel
theorem dX3_clock_81 : decode cX3_clock 81 = .ok (.iload_n 1, 1) := by decide +kernel
theorem dX3_clock_82 : decode cX3_clock 82 = .ok (.imul, 1) := by decide +kernel
theorem dX3_clock_83 : decode cX3_clock 83 = .ok (.iload 4, 2) := by decide +kernel
theorem dX3_clock_85 : decode cX3_clock 85 = .ok (.iadd, 1) := by decide +kernel
theorem dX3_clock_86 : decode cX3_clock 86 = .ok (.iconst 0, 1) := by decide +kernel
theorem dX3_clock_87 : decode cX3_clock 87 = .ok (.bastore, 1) := by decide +kernel
theorem dX3_clock_88 : decode cX3_clock 88 = .ok (.aload_n 0, 1) := by decide +kernel
theorem dX3_clock_89 : decode cX3_clock 89 = .ok (.iload_n 3, 1) := by decide +kernel
theorem dX3_clock_90 : decode cX3_clock 90 = .ok (.iload 4, 2) := by decide +kernel
theorem dX3_clock_92 : decode cX3_clock 92 = .ok (.invokevirtual 46, 3) := by decide +kernel
theorem dX3_clock_95 : decode cX3_clock 95 = .ok (.aload_n 0, 1) := by decide +kernel
theorem dX3_clock_96 : decode cX3_clock 96 = .ok (.iload_n 3, 1) := by decide +kernel
theorem dX3_clock_97 : decode cX3_clock 97 = .ok (.iload 4, 2) := by decide +kernel
theorem dX3_clock_99 : decode cX3_clock 99 = .ok (.invokevirtual 68, 3) := by decide +kernel
theorem dX3_clock_102 : decode cX3_clock 102 = .ok (.goto (-60), 3) := by decide +kernel
theorem dX3_clock_105 : decode cX3_clock 105 = .ok (.aload_n 0, 1) := by decide +kernel
theorem dX3_clock_106 : decode cX3_clock 106 = .ok (.aload_n 0, 1) := by decide +kernel
theorem dX3_clock_107 : decode cX3_clock 107 = .ok (.getfield 22, 3) := by decide +kernel
theorem dX3_clock_110 : decode cX3_clock 110 = .ok (.bipush 20, 2) := by decide +kernel
theorem dX3_clock_112 : decode cX3_clock 112 = .ok (.iload_n 3, 1) := by decide +kernel
theorem dX3_clock_113 : decode cX3_clock 113 = .ok (.imul, 1) := by decide +kernel
theorem dX3_clock_114 : decode cX3_clock 114 = .ok (.iaload, 1) := by decide +kernel
theorem dX3_clock_115 : decode cX3_clock 115 = .ok (.putfield 65, 3) := by decide +kernel
theorem dX3_clock_118 : decode cX3_clock 118 = .ok (.aload_n 0, 1) := by decide +kernel
theorem dX3_clock_119 : decode cX3_clock 119 = .ok (.iload_n 3, 1) := by decide +kernel
theorem dX3_clock_120 : decode cX3_clock 120 = .ok (.aload_n 0, 1) := by decide +kernel
theorem dX3_clock_121 : decode cX3_clock 121 = .ok (.getfield 65, 3) := by decide +kernel
theorem dX3_clock_124 : decode cX3_clock 124 = .ok (.invokevirtual 46, 3) := by decide +kernel
theorem dX3_clock_127 : decode cX3_clock 127 = .ok (.aload_n 0, 1) := by decide +kernel
theorem dX3_clock_128 : decode cX3_clock 128 = .ok (.iload_n 3, 1) := by decide +kernel
theorem dX3_clock_129 : decode cX3_clock 129 = .ok (.iload_n 2, 1) := by decide +kernel
theorem dX3_clock_130 : decode cX3_clock 130 = .ok (.invokevirtual 68, 3) := by decide +kernel
theorem dX3_clock_133 : decode cX3_clock 133 = .ok (.iconst 0, 1) := by decide +kernel
theorem dX3_clock_134 : decode cX3_clock 134 = .ok (.ireturn, 1) := by decide +kernel
set_option maxRecDepth 20000 in
theorem ggX3_makeRoom_X3_cutTail : GoodIn wsX3_makeRoom wsX3_cutTail := goodIn_r _ [8, 2, 9, 14, 15, 16, 17, 18, 19, 20, 21, 22, 23, 24] (by decide +kernel) (by decide +kernel)
set_option maxRecDepth 20000 in
theorem gX3_makeRoom_X3_cutTail : GoodIn wsX3_makeRoom (wsV RX3 61 RX3 yX3_cutTail wsX3_cutTail) := goodIn_app (goodIn_of _ (by decide +kernel)) ggX3_makeRoom_X3_cutTail
set_option maxRecDepth 20000 in
theorem ggX3_makeRoom_X3_toHead : GoodIn wsX3_makeRoom wsX3_toHead := goodIn_r _ [13, 2, 9, 14, 15, 16, 17, 18, 19, 20, 21, 22, 23, 24] (by decide +kernel) (by decide +kernel)
set_option maxRecDepth 20000 in
theorem gX3_makeRoom_X3_toHead : GoodIn wsX3_makeRoom (wsV RX3 50 RX3 yX3_toHead wsX3_toHead) := goodIn_app (goodIn_of _ (by decide +kernel)) ggX3_makeRoom_X3_toHead
theorem dX3_makeRoom_0 : decode cX3_makeRoom 0 = .ok (.iconst 4, 1) := by decide +kernel
theorem dX3_makeRoom_1 : decode cX3_makeRoom 1 = .ok (.iload_n 1, 1) := by decide +kernel
theorem dX3_makeRoom_2 : decode cX3_makeRoom 2 = .ok (.imul, 1) := by decide +kernel
theorem dX3_makeRoom_3 : decode cX3_makeRoom 3 = .ok (.istore_n 2, 1) := by decide +kernel
theorem dX3_makeRoom_4 : decode cX3_makeRoom 4 = .ok (.aload_n 0, 1) := by decide +kernel
theorem dX3_makeRoom_5 : decode cX3_makeRoom 5 = .ok (.getfield 13, 3) := by decide +kernel
theorem dX3_makeRoom_8 : decode cX3_makeRoom 8 = .ok (.iload_n 1, 1) := by decide +kernel
theorem dX3_makeRoom_9 : decode cX3_makeRoom 9 = .ok (.iaload, 1) := by decide +kernel
theorem dX3_makeRoom_10 : decode cX3_makeRoom 10 = .ok (.istore_n 3, 1) := by decide +kernel
theorem dX3_makeRoom_11 : decode cX3_makeRoom 11 = .ok (.aload_n 0, 1) := by decide +kernel
theorem dX3_makeRoom_12 : decode cX3_makeRoom 12 = .ok (.getfield 19, 3) := by decide +kernel
theorem dX3_makeRoom_15 : decode cX3_makeRoom 15 = .ok (.iload_n 2, 1) := by decide +kernel
theorem dX3_makeRoom_16 : decode cX3_makeRoom 16 = .ok (.iaload, 1) := by decide +kernel
theorem dX3_makeRoom_17 : decode cX3_makeRoom 17 = .ok (.aload_n 0, 1) := by decide +kernel
theorem dX3_makeRoom_18 : decode cX3_makeRoom 18 = .ok (.getfield 19, 3) := by decide +kernel
theorem dX3_makeRoom_21 : decode cX3_makeRoom 21 = .ok (.iload_n 2, 1) := by decide +kernel
theorem dX3_makeRoom_22 : decode cX3_makeRoom 22 = .ok (.iconst 2, 1) := by decide +kernel
theorem dX3_makeRoom_23 : decode cX3_makeRoom 23 = .ok (.iadd, 1) := by decide +kernel
theorem dX3_makeRoom_24 : decode cX3_makeRoom 24 = .ok (.iaload, 1) := by decide +kernel
theorem dX3_makeRoom_25 : decode cX3_makeRoom 25 = .ok (.iadd, 1) := by decide +kernel
theorem dX3_makeRoom_26 : decode cX3_makeRoom 26 = .ok (.iload_n 3, 1) := by decide +kernel
theorem dX3_makeRoom_27 : decode cX3_makeRoom 27 = .ok (.if_icmp .ge 4, 3) := by decide +kernel
theorem dX3_makeRoom_30 : decode cX3_makeRoom 30 = .ok (.return_, 1) := by decide +kernel
theorem dX3_makeRoom_31 : decode cX3_makeRoom 31 = .ok (.aload_n 0, 1) := by decide +kernel
theorem dX3_makeRoom_32 : decode cX3_makeRoom 32 = .ok (.getfield 19, 3) := by decide +kernel
theorem dX3_makeRoom_35 : decode cX3_makeRoom 35 = .ok (.iload_n 2, 1) := by decide +kernel
theorem dX3_makeRoom_36 : decode cX3_makeRoom 36 = .ok (.iaload, 1) := by decide +kernel
theorem dX3_makeRoom_37 : decode cX3_makeRoom 37 = .ok (.iload_n 3, 1) := by decide +kernel
theorem dX3_makeRoom_38 : decode cX3_makeRoom 38 = .ok (.iconst 4, 1) := by decide +kernel
theorem dX3_makeRoom_39 : decode cX3_makeRoom 39 = .ok (.idiv, 1) := by decide +kernel
theorem dX3_makeRoom_40 : decode cX3_makeRoom 40 = .ok (.if_icmp .gt 15, 3) := by decide +kernel
theorem dX3_makeRoom_43 : decode cX3_makeRoom 43 = .ok (.aload_n 0, 1) := by decide +kernel
theorem dX3_makeRoom_44 : decode cX3_makeRoom 44 = .ok (.aload_n 0, 1) := by decide +kernel
theorem dX3_makeRoom_45 : decode cX3_makeRoom 45 = .ok (.iload_n 2, 1) := by decide +kernel
theorem dX3_makeRoom_46 : decode cX3_makeRoom 46 = .ok (.iconst 2, 1) := by decide +kernel
theorem dX3_makeRoom_47 : decode cX3_makeRoom 47 = .ok (.iadd, 1) := by decide +kernel
theorem dX3_makeRoom_48 : decode cX3_makeRoom 48 = .ok (.invokevirtual 61, 3) := by decide +kernel
theorem dX3_makeRoom_51 : decode cX3_makeRoom 51 = .ok (.putfield 65, 3) := by decide +kernel
theorem dX3_makeRoom_54 : decode cX3_makeRoom 54 = .ok (.return_, 1) := by decide +kernel
theorem dX3_makeRoom_55 : decode cX3_makeRoom 55 = .ok (.aload_n 0, 1) := by decide +kernel
theorem dX3_makeRoom_56 : decode cX3_makeRoom 56 = .ok (.aload_n 0, 1) := by decide +kernel
theorem dX3_makeRoom_57 : decode cX3_makeRoom 57 = .ok (.iload_n 2, 1) := by decide +kernel
theorem dX3_makeRoom_58 : decode cX3_makeRoom 58 = .ok (.invokevirtual 61, 3) := by decide +kernel
theorem dX3_makeRoom_61 : decode cX3_makeRoom 61 = .ok (.putfield 65, 3) := by decide +kernel
theorem dX3_makeRoom_64 : decode cX3_makeRoom 64 = .ok (.aload_n 0, 1) := by decide +kernel
theorem dX3_makeRoom_65 : decode cX3_makeRoom 65 = .ok (.iload_n 2, 1) := by decide +kernel
theorem dX3_makeRoom_66 : decode cX3_makeRoom 66 = .ok (.iconst 1, 1) := by decide +kernel
theorem dX3_makeRoom_67 : decode cX3_makeRoom 67 = .ok (.iadd, 1) := by decide +kernel
theorem dX3_makeRoom_68 : decode cX3_makeRoom 68 = .ok (.aload_n 0, 1) := by decide +kernel
theorem dX3_makeRoom_69 : decode cX3_makeRoom 69 = .ok (.getfield 65, 3) := by decide +kernel
theorem dX3_makeRoom_72 : decode cX3_makeRoom 72 = .ok (.invokevirtual 50, 3) := by decide +kernel
theorem dX3_makeRoom_75 : decode cX3_makeRoom 75 = .ok (.iload_n 3, 1) := by decide +kernel
theorem dX3_makeRoom_76 : decode cX3_makeRoom 76 = .ok (.iconst 2, 1) := by decide +kernel
theorem dX3_makeRoom_77 : decode cX3_makeRoom 77 = .ok (.idiv, 1) := by decide +kernel
theorem dX3_makeRoom_78 : decode cX3_makeRoom 78 = .ok (.iconst 1, 1) := by decide +kernel
theorem dX3_makeRoom_79 : decode cX3_makeRoom 79 = .ok (.if_icmp .ge 7, 3) := by decide +kernel
theorem dX3_makeRoom_82 : decode cX3_makeRoom 82 = .ok (.iconst 1, 1) := by decide +kernel
theorem dX3_makeRoom_83 : decode cX3_makeRoom 83 = .ok (.goto 6, 3) := by decide +kernel
theorem dX3_makeRoom_86 : decode cX3_makeRoom 86 = .ok (.iload_n 3, 1) := by decide +kernel
theorem dX3_makeRoom_87 : decode cX3_makeRoom 87 = .ok (.iconst 2, 1) := by decide +kernel
theorem dX3_makeRoom_88 : decode cX3_makeRoom 88 = .ok (.idiv, 1) := by decide +kernel
theorem dX3_makeRoom_89 : decode cX3_makeRoom 89 = .ok (.istore 4, 2) := by decide +kernel
theorem dX3_makeRoom_91 : decode cX3_makeRoom 91 = .ok (.aload_n 0, 1) := by decide +kernel
theorem dX3_makeRoom_92 : decode cX3_makeRoom 92 = .ok (.getfield 19, 3) := by decide +kernel
theorem dX3_makeRoom_95 : decode cX3_makeRoom 95 = .ok (.iload_n 2, 1) := by decide +kernel
theorem dX3_makeRoom_96 : decode cX3_makeRoom 96 = .ok (.iconst 1, 1) := by decide +kernel
theorem dX3_makeRoom_97 : decode cX3_makeRoom 97 = .ok (.iadd, 1) := by decide +kernel
theorem dX3_makeRoom_98 : decode cX3_makeRoom 98 = .ok (.aload_n 0, 1) := by decide +kernel
theorem dX3_makeRoom_99 : decode cX3_makeRoom 99 = .ok (.getfield 19, 3) := by decide +kernel
theorem dX3_makeRoom_102 : decode cX3_makeRoom 102 = .ok (.iload_n 2, 1) := by decide +kernel
theorem dX3_makeRoom_103 : decode cX3_makeRoom 103 = .ok (.iconst 1, 1) := by decide +kernel
theorem dX3_makeRoom_104 : decode cX3_makeRoom 104 = .ok (.iadd, 1) := by decide +kernel
theorem dX3_makeRoom_105 : decode cX3_makeRoom 105 = .ok (.iaload, 1) := by decide +kernel
theorem dX3_makeRoom_106 : decode cX3_makeRoom 106 = .ok (.iload 4, 2) := by decide +kernel
theorem dX3_makeRoom_108 : decode cX3_makeRoom 108 = .ok (.if_icmp .le 16, 3) := by decide +kernel
theorem dX3_makeRoom_111 : decode cX3_makeRoom 111 = .ok (.aload_n 0, 1) := by decide +kernel
theorem dX3_makeRoom_112 : decode cX3_makeRoom 112 = .ok (.getfield 19, 3) := by decide +kernel
theorem dX3_makeRoom_115 : decode cX3_makeRoom 115 = .ok (.iload_n 2, 1) := by decide +kernel
theorem dX3_makeRoom_116 : decode cX3_makeRoom 116 = .ok (.iconst 1, 1) := by decide +kernel
theorem dX3_makeRoom_117 : decode cX3_makeRoom 117 = .ok (.iadd, 1) := by decide +kernel
theorem dX3_makeRoom_118 : decode cX3_makeRoom 118 = .ok (.iaload, 1) := by decide +kernel
theorem dX3_makeRoom_119 : decode cX3_makeRoom 119 = .ok (.iconst 1, 1) := by decide +kernel
theorem dX3_makeRoom_120 : decode cX3_makeRoom 120 = .ok (.isub, 1) := by decide +kernel
theorem dX3_makeRoom_121 : decode cX3_makeRoom 121 = .ok (.goto 11, 3) := by decide +kernel
theorem dX3_makeRoom_124 : decode cX3_makeRoom 124 = .ok (.aload_n 0, 1) := by decide +kernel
theorem dX3_makeRoom_125 : decode cX3_makeRoom 125 = .ok (.getfield 19, 3) := by decide +kernel
theorem dX3_makeRoom_128 : decode cX3_makeRoom 128 = .ok (.iload_n 2, 1) := by decide +kernel
theorem dX3_makeRoom_129 : decode cX3_makeRoom 129 = .ok (.iconst 1, 1) := by decide +kernel
theorem dX3_makeRoom_130 : decode cX3_makeRoom 130 = .ok (.iadd, 1) := by decide +kernel
theorem dX3_makeRoom_131 : decode cX3_makeRoom 131 = .ok (.iaload, 1) := by decide +kernel
theorem dX3_makeRoom_132 : decode cX3_makeRoom 132 = .ok (.iastore, 1) := by decide +kernel
theorem dX3_makeRoom_133 : decode cX3_makeRoom 133 = .ok (.return_, 1) := by decide +kernel
set_option maxRecDepth 20000 in
theorem ggX3_queues_X3_isIn : GoodIn wsX3_queues wsX3_isIn := goodIn_r _ [5, 6, 7, 8, 4, 9, 10, 11, 34, 35, 36, 37, 38, 39, 40, 41, 42, 43, 44] (by decide +kernel) (by decide +kernel)
set_option maxRecDepth 20000 in
theorem gX3_queues_X3_isIn : GoodIn wsX3_queues (wsV RX3 53 RX3 yX3_isIn wsX3_isIn) := goodIn_app (goodIn_of _ (by decide +kernel)) ggX3_queues_X3_isIn
set_option maxRecDepth 20000 in
theorem ggX3_queues_X3_move : GoodIn wsX3_queues wsX3_move := goodIn_r _ [15, 16, 17, 18, 4, 19, 10, 11, 6, 7, 8, 9, 20, 21, 22, 23, 34, 35, 36, 37, 38, 39, 40, 41, 42, 43, 44] (by decide +kernel) (by decide +kernel)
set_option maxRecDepth 20000 in
theorem gX3_queues_X3_move : GoodIn wsX3_queues (wsV RX3 57 RX3 yX3_move wsX3_move) := goodIn_app (goodIn_of _ (by decide +kernel)) ggX3_queues_X3_move
set_option maxRecDepth 20000 in
theorem ggX3_queues_X3_takeOut : GoodIn wsX3_queues wsX3_takeOut := goodIn_r _ [19, 10, 11, 6, 7, 8, 4, 9, 34, 35, 36, 37, 38, 39, 40, 41, 42, 43, 44] (by decide +kernel) (by decide +kernel)
set_option maxRecDepth 20000 in
theorem gX3_queues_X3_takeOut : GoodIn wsX3_queues (wsV RX3 46 RX3 yX3_takeOut wsX3_takeOut) := goodIn_app (goodIn_of _ (by decide +kernel)) ggX3_queues_X3_takeOut
set_option maxRecDepth 20000 in
theorem ggX3_queues_X3_makeRoom : GoodIn wsX3_queues wsX3_makeRoom := goodIn_r _ [27, 28, 10, 29, 30, 31, 32, 4, 33, 11, 20, 21, 22, 23, 34, 35, 36, 37, 38, 39, 40, 41, 42, 43, 44] (by decide +kernel) (by decide +kernel)
set_option maxRecDepth 20000 in
theorem gX3_queues_X3_makeRoom : GoodIn wsX3_queues (wsV RX3 71 RX3 yX3_makeRoom wsX3_makeRoom) := goodIn_app (goodIn_of _ (by decide +kernel)) ggX3_queues_X3_makeRoom
set_option maxRecDepth 20000 in
theorem ggX3_queues_X3_toHead : GoodIn wsX3_queues wsX3_toHead := goodIn_r _ [23, 10, 11, 34, 35, 36, 37, 38, 39, 40, 41, 42, 43, 44] (by decide +kernel) (by decide +kernel)
set_option maxRecDepth 20000 in
theorem gX3_queues_X3_toHead : GoodIn wsX3_queues (wsV RX3 50 RX3 yX3_toHead wsX3_toHead) := goodIn_app (goodIn_of _ (by decide +kernel)) ggX3_queues_X3_toHead
theorem dX3_queues_0 : decode cX3_queues 0 = .ok (.iconst 4, 1) := by decide +kernel
theorem dX3_queues_1 : decode cX3_queues 1 = .ok (.iload_n 1, 1) := by decide +kernel
theorem dX3_queues_2 : decode cX3_queues 2 = .ok (.imul, 1) := by decide +kernel
theorem dX3_queues_3 : decode cX3_queues 3 = .ok (.istore_n 3, 1) := by decide +kernel
theorem dX3_queues_4 : decode cX3_queues 4 = .ok (.aload_n 0, 1) := by decide +kernel
theorem dX3_queues_5 : decode cX3_queues 5 = .ok (.iload_n 3, 1) := by decide +kernel
theorem dX3_queues_6 : decode cX3_queues 6 = .ok (.iconst 2, 1) := by decide +kernel
theorem dX3_queues_7 : decode cX3_queues 7 = .ok (.iadd, 1) := by decide +kernel
theorem dX3_queues_8 : decode cX3_queues 8 = .ok (.iload_n 2, 1) := by decide +kernel
theorem dX3_queues_9 : decode cX3_queues 9 = .ok (.invokevirtual 53, 3) := by decide +kernel
theorem dX3_queues_12 : decode cX3_queues 12 = .ok (.ifCond .eq 16, 3) := by decide +kernel
theorem dX3_queues_15 : decode cX3_queues 15 = .ok (.aload_n 0, 1) := by decide +kernel
theorem dX3_queues_16 : decode cX3_queues 16 = .ok (.iload_n 3, 1) := by decide +kernel
theorem dX3_queues_17 : decode cX3_queues 17 = .ok (.iconst 2, 1) := by decide +kernel
theorem dX3_queues_18 : decode cX3_queues 18 = .ok (.iadd, 1) := by decide +kernel
theorem dX3_queues_19 : decode cX3_queues 19 = .ok (.iload_n 3, 1) := by decide +kernel
theorem dX3_queues_20 : decode cX3_queues 20 = .ok (.iconst 2, 1) := by decide +kernel
theorem dX3_queues_21 : decode cX3_queues 21 = .ok (.iadd, 1) := by decide +kernel
theorem dX3_queues_22 : decode cX3_queues 22 = .ok (.iload_n 2, 1) := by decide +kernel
theorem dX3_queues_23 : decode cX3_queues 23 = .ok (.invokevirtual 57, 3) := by decide +kernel
theorem dX3_queues_26 : decode cX3_queues 26 = .ok (.iconst 1, 1) := by decide +kernel
theorem dX3_queues_27 : decode cX3_queues 27 = .ok (.ireturn, 1) := by decide +kernel
theorem dX3_queues_28 : decode cX3_queues 28 = .ok (.aload_n 0, 1) := by decide +kernel
theorem dX3_queues_29 : decode cX3_queues 29 = .ok (.iload_n 3, 1) := by decide +kernel
theorem dX3_queues_30 : decode cX3_queues 30 = .ok (.iload_n 2, 1) := by decide +kernel
theorem dX3_queues_31 : decode cX3_queues 31 = .ok (.invokevirtual 53, 3) := by decide +kernel
theorem dX3_queues_34 : decode cX3_queues 34 = .ok (.ifCond .eq 5, 3) := by decide +kernel
theorem dX3_queues_37 : decode cX3_queues 37 = .ok (.iconst 1, 1) := by decide +kernel
theorem dX3_queues_38 : decode cX3_queues 38 = .ok (.ireturn, 1) := by decide +kernel
theorem dX3_queues_39 : decode cX3_queues 39 = .ok (.iload_n 3, 1) := by decide +kernel
theorem dX3_queues_40 : decode cX3_queues 40 = .ok (.istore 4, 2) := by decide +kernel
theorem dX3_queues_42 : decode cX3_queues 42 = .ok (.aload_n 0, 1) := by decide +kernel
theorem dX3_queues_43 : decode cX3_queues 43 = .ok (.iload_n 3, 1) := by decide +kernel
theorem dX3_queues_44 : decode cX3_queues 44 = .ok (.iconst 1, 1) := by decide +kernel
theorem dX3_queues_45 : decode cX3_queues 45 = .ok (.iadd, 1) := by decide +kernel
theorem dX3_queues_46 : decode cX3_queues 46 = .ok (.iload_n 2, 1) := by decide +kernel
theorem dX3_queues_47 : decode cX3_queues 47 = .ok (.invokevirtual 53, 3) := by decide +kernel
theorem dX3_queues_50 : decode cX3_queues 50 = .ok (.ifCond .eq 16, 3) := by decide +kernel
theorem dX3_queues_53 : decode cX3_queues 53 = .ok (.aload_n 0, 1) := by decide +kernel
theorem dX3_queues_54 : decode cX3_queues 54 = .ok (.iload_n 3, 1) := by decide +kernel
theorem dX3_queues_55 : decode cX3_queues 55 = .ok (.iconst 1, 1) := by decide +kernel
theorem dX3_queues_56 : decode cX3_queues 56 = .ok (.iadd, 1) := by decide +kernel
theorem dX3_queues_57 : decode cX3_queues 57 = .ok (.iload_n 2, 1) := by decide +kernel
theorem dX3_queues_58 : decode cX3_queues 58 = .ok (.invokevirtual 46, 3) := by decide +kernel
theorem dX3_queues_61 : decode cX3_queues 61 = .ok (.iload_n 3, 1) := by decide +kernel
theorem dX3_queues_62 : decode cX3_queues 62 = .ok (.iconst 2, 1) := by decide +kernel
theorem dX3_queues_63 : decode cX3_queues 63 = .ok (.iadd, 1) := by decide +kernel
theorem dX3_queues_64 : decode cX3_queues 64 = .ok (.istore 4, 2) := by decide +kernel
theorem dX3_queues_66 : decode cX3_queues 66 = .ok (.aload_n 0, 1) := by decide +kernel
theorem dX3_queues_67 : decode cX3_queues 67 = .ok (.iload_n 1, 1) := by decide +kernel
theorem dX3_queues_68 : decode cX3_queues 68 = .ok (.invokevirtual 71, 3) := by decide +kernel
theorem dX3_queues_71 : decode cX3_queues 71 = .ok (.aload_n 0, 1) := by decide +kernel
theorem dX3_queues_72 : decode cX3_queues 72 = .ok (.iload 4, 2) := by decide +kernel
theorem dX3_queues_74 : decode cX3_queues 74 = .ok (.iload_n 2, 1) := by decide +kernel
theorem dX3_queues_75 : decode cX3_queues 75 = .ok (.invokevirtual 50, 3) := by decide +kernel
theorem dX3_queues_78 : decode cX3_queues 78 = .ok (.iconst 0, 1) := by decide +kernel
theorem dX3_queues_79 : decode cX3_queues 79 = .ok (.ireturn, 1) := by decide +kernel
set_option maxRecDepth 20000 in
theorem ggX3_putOut_X3_cutTail : GoodIn wsX3_putOut wsX3_cutTail := goodIn_r _ [8, 1, 9, 14, 15, 16, 17, 18, 19, 20, 21, 22, 23, 24] (by decide +kernel) (by decide +kernel)
set_option maxRecDepth 20000 in
theorem gX3_putOut_X3_cutTail : GoodIn wsX3_putOut (wsV RX3 61 RX3 yX3_cutTail wsX3_cutTail) := goodIn_app (goodIn_of _ (by decide +kernel)) ggX3_putOut_X3_cutTail
set_option maxRecDepth 20000 in
theorem ggX3_putOut_X3_toHead : GoodIn wsX3_putOut wsX3_toHead := goodIn_r _ [13, 1, 9, 14, 15, 16, 17, 18, 19, 20, 21, 22, 23, 24] (by decide +kernel) (by decide +kernel)
set_option maxRecDepth 20000 in
theorem gX3_putOut_X3_toHead : GoodIn wsX3_putOut (wsV RX3 50 RX3 yX3_toHead wsX3_toHead) := goodIn_app (goodIn_of _ (by decide +kernel)) ggX3_putOut_X3_toHead
theorem dX3_putOut_0 : decode cX3_putOut 0 = .ok (.iconst 4, 1) := by decide +kernel
theorem dX3_putOut_1 : decode cX3_putOut 1 = .ok (.iload_n 1, 1) := by decide +kernel
theorem dX3_putOut_2 : decode cX3_putOut 2 = .ok (.imul, 1) := by decide +kernel
theorem dX3_putOut_3 : decode cX3_putOut 3 = .ok (.istore_n 3, 1) := by decide +kernel
theorem dX3_putOut_4 : decode cX3_putOut 4 = .ok (.aload_n 0, 1) := by decide +kernel
theorem dX3_putOut_5 : decode cX3_putOut 5 = .ok (.getfield 19, 3) := by decide +kernel
theorem dX3_putOut_8 : decode cX3_putOut 8 = .ok (.iload_n 3, 1) := by decide +kernel
theorem dX3_putOut_9 : decode cX3_putOut 9 = .ok (.iaload, 1) := by decide +kernel
theorem dX3_putOut_10 : decode cX3_putOut 10 = .ok (.istore 4, 2) := by decide +kernel
theorem dX3_putOut_12 : decode cX3_putOut 12 = .ok (.iload 4, 2) := by decide +kernel
theorem dX3_putOut_14 : decode cX3_putOut 14 = .ok (.ifCond .le 33, 3) := by decide +kernel
theorem dX3_putOut_17 : decode cX3_putOut 17 = .ok (.iload 4, 2) := by decide +kernel
theorem dX3_putOut_19 : decode cX3_putOut 19 = .ok (.aload_n 0, 1) := by decide +kernel
theorem dX3_putOut_20 : decode cX3_putOut 20 = .ok (.getfield 16, 3) := by decide +kernel
theorem dX3_putOut_23 : decode cX3_putOut 23 = .ok (.iload_n 1, 1) := by decide +kernel
theorem dX3_putOut_24 : decode cX3_putOut 24 = .ok (.iaload, 1) := by decide +kernel
theorem dX3_putOut_25 : decode cX3_putOut 25 = .ok (.if_icmp .gt 18, 3) := by decide +kernel
theorem dX3_putOut_28 : decode cX3_putOut 28 = .ok (.iload 4, 2) := by decide +kernel
theorem dX3_putOut_30 : decode cX3_putOut 30 = .ok (.aload_n 0, 1) := by decide +kernel
theorem dX3_putOut_31 : decode cX3_putOut 31 = .ok (.getfield 16, 3) := by decide +kernel
theorem dX3_putOut_34 : decode cX3_putOut 34 = .ok (.iload_n 1, 1) := by decide +kernel
theorem dX3_putOut_35 : decode cX3_putOut 35 = .ok (.iaload, 1) := by decide +kernel
theorem dX3_putOut_36 : decode cX3_putOut 36 = .ok (.if_icmp .ne 11, 3) := by decide +kernel
theorem dX3_putOut_39 : decode cX3_putOut 39 = .ok (.iload_n 2, 1) := by decide +kernel
theorem dX3_putOut_40 : decode cX3_putOut 40 = .ok (.ifCond .eq 7, 3) := by decide +kernel
theorem dX3_putOut_43 : decode cX3_putOut 43 = .ok (.iconst 1, 1) := by decide +kernel
theorem dX3_putOut_44 : decode cX3_putOut 44 = .ok (.goto 4, 3) := by decide +kernel
theorem dX3_putOut_47 : decode cX3_putOut 47 = .ok (.iconst 0, 1) := by decide +kernel
theorem dX3_putOut_48 : decode cX3_putOut 48 = .ok (.istore 5, 2) := by decide +kernel
theorem dX3_putOut_50 : decode cX3_putOut 50 = .ok (.aload_n 0, 1) := by decide +kernel
theorem dX3_putOut_51 : decode cX3_putOut 51 = .ok (.aload_n 0, 1) := by decide +kernel
theorem dX3_putOut_52 : decode cX3_putOut 52 = .ok (.iload 5, 2) := by decide +kernel
theorem dX3_putOut_54 : decode cX3_putOut 54 = .ok (.ifCond .eq 7, 3) := by decide +kernel
theorem dX3_putOut_57 : decode cX3_putOut 57 = .ok (.iload_n 3, 1) := by decide +kernel
theorem dX3_putOut_58 : decode cX3_putOut 58 = .ok (.goto 6, 3) := by decide +kernel
theorem dX3_putOut_61 : decode cX3_putOut 61 = .ok (.iload_n 3, 1) := by decide +kernel
theorem dX3_putOut_62 : decode cX3_putOut 62 = .ok (.iconst 1, 1) := by decide +kernel
theorem dX3_putOut_63 : decode cX3_putOut 63 = .ok (.iadd, 1) := by decide +kernel
theorem dX3_putOut_64 : decode cX3_putOut 64 = .ok (.invokevirtual 61, 3) := by decide +kernel
theorem dX3_putOut_67 : decode cX3_putOut 67 = .ok (.putfield 65, 3) := by decide +kernel
theorem dX3_putOut_70 : decode cX3_putOut 70 = .ok (.aload_n 0, 1) := by decide +kernel
theorem dX3_putOut_71 : decode cX3_putOut 71 = .ok (.iload 5, 2) := by decide +kernel
theorem dX3_putOut_73 : decode cX3_putOut 73 = .ok (.ifCond .eq 9, 3) := by decide +kernel
theorem dX3_putOut_76 : decode cX3_putOut 76 = .ok (.iload_n 3, 1) := by decide +kernel
theorem dX3_putOut_77 : decode cX3_putOut 77 = .ok (.iconst 2, 1) := by decide +kernel
theorem dX3_putOut_78 : decode cX3_putOut 78 = .ok (.iadd, 1) := by decide +kernel
theorem dX3_putOut_79 : decode cX3_putOut 79 = .ok (.goto 6, 3) := by decide +kernel
theorem dX3_putOut_82 : decode cX3_putOut 82 = .ok (.iload_n 3, 1) := by decide +kernel
theorem dX3_putOut_83 : decode cX3_putOut 83 = .ok (.iconst 3, 1) := by decide +kernel
theorem dX3_putOut_84 : decode cX3_putOut 84 = .ok (.iadd, 1) := by decide +kernel
theorem dX3_putOut_85 : decode cX3_putOut 85 = .ok (.aload_n 0, 1) := by decide +kernel
theorem dX3_putOut_86 : decode cX3_putOut 86 = .ok (.getfield 65, 3) := by decide +kernel
theorem dX3_putOut_89 : decode cX3_putOut 89 = .ok (.invokevirtual 50, 3) := by decide +kernel
theorem dX3_putOut_92 : decode cX3_putOut 92 = .ok (.return_, 1) := by decide +kernel
theorem dX3_greater_0 : decode cX3_greater 0 = .ok (.iload_n 0, 1) := by decide +kernel
theorem dX3_greater_1 : decode cX3_greater 1 = .ok (.iload_n 1, 1) := by decide +kernel
theorem dX3_greater_2 : decode cX3_greater 2 = .ok (.if_icmp .le 7, 3) := by decide +kernel
theorem dX3_greater_5 : decode cX3_greater 5 = .ok (.iload_n 0, 1) := by decide +kernel
theorem dX3_greater_6 : decode cX3_greater 6 = .ok (.goto 4, 3) := by decide +kernel
theorem dX3_greater_9 : decode cX3_greater 9 = .ok (.iload_n 1, 1) := by decide +kernel
theorem dX3_greater_10 : decode cX3_greater 10 = .ok (.ireturn, 1) := by decide +kernel
set_option maxRecDepth 20000 in
theorem ggX3_back_X3_greater : GoodIn wsX3_back wsX3_greater := goodIn_r _ [7] (by decide +kernel) (by decide +kernel)
set_option maxRecDepth 20000 in
theorem gX3_back_X3_greater : GoodIn wsX3_back (va_wsS RX3 75 yX3_greater wsX3_greater) := goodIn_app (goodIn_of _ (by decide +kernel)) ggX3_back_X3_greater
set_option maxRecDepth 20000 in
theorem ggX3_back_X3_putOut : GoodIn wsX3_back wsX3_putOut := goodIn_r _ [11, 1, 2, 12, 13, 14, 15, 6, 16, 17, 18, 19, 20, 21, 34, 35, 36, 37, 38, 39, 40, 41, 42, 43, 44] (by decide +kernel) (by decide +kernel)
set_option maxRecDepth 20000 in
theorem gX3_back_X3_putOut : GoodIn wsX3_back (wsV RX3 78 RX3 yX3_putOut wsX3_putOut) := goodIn_app (goodIn_of _ (by decide +kernel)) ggX3_back_X3_putOut
set_option maxRecDepth 20000 in
theorem ggX3_back_X3_move : GoodIn wsX3_back wsX3_move := goodIn_r _ [25, 26, 27, 28, 6, 29, 1, 17, 30, 31, 32, 33, 18, 19, 20, 21, 34, 35, 36, 37, 38, 39, 40, 41, 42, 43, 44] (by decide +kernel) (by decide +kernel)
set_option maxRecDepth 20000 in
theorem gX3_back_X3_move : GoodIn wsX3_back (wsV RX3 57 RX3 yX3_move wsX3_move) := goodIn_app (goodIn_of _ (by decide +kernel)) ggX3_back_X3_move
theorem dX3_back_0 : decode cX3_back 0 = .ok (.iconst 4, 1) := by decide +kernel
theorem dX3_back_1 : decode cX3_back 1 = .ok (.iload_n 1, 1) := by decide +kernel
theorem dX3_back_2 : decode cX3_back 2 = .ok (.imul, 1) := by decide +kernel
theorem dX3_back_3 : decode cX3_back 3 = .ok (.istore 4, 2) := by decide +kernel
theorem dX3_back_5 : decode cX3_back 5 = .ok (.aload_n 0, 1) := by decide +kernel
theorem dX3_back_6 : decode cX3_back 6 = .ok (.getfield 19, 3) := by decide +kernel
theorem dX3_back_9 : decode cX3_back 9 = .ok (.iload 4, 2) := by decide +kernel
theorem dX3_back_11 : decode cX3_back 11 = .ok (.iconst 2, 1) := by decide +kernel
theorem dX3_back_12 : decode cX3_back 12 = .ok (.iadd, 1) := by decide +kernel
theorem dX3_back_13 : decode cX3_back 13 = .ok (.iaload, 1) := by decide +kernel
theorem dX3_back_14 : decode cX3_back 14 = .ok (.istore 5, 2) := by decide +kernel
theorem dX3_back_16 : decode cX3_back 16 = .ok (.aload_n 0, 1) := by decide +kernel
theorem dX3_back_17 : decode cX3_back 17 = .ok (.getfield 19, 3) := by decide +kernel
theorem dX3_back_20 : decode cX3_back 20 = .ok (.iload 4, 2) := by decide +kernel
theorem dX3_back_22 : decode cX3_back 22 = .ok (.iconst 3, 1) := by decide +kernel
theorem dX3_back_23 : decode cX3_back 23 = .ok (.iadd, 1) := by decide +kernel
theorem dX3_back_24 : decode cX3_back 24 = .ok (.iaload, 1) := by decide +kernel
theorem dX3_back_25 : decode cX3_back 25 = .ok (.istore 6, 2) := by decide +kernel
theorem dX3_back_27 : decode cX3_back 27 = .ok (.iload_n 3, 1) := by decide +kernel
theorem dX3_back_28 : decode cX3_back 28 = .ok (.ifCond .eq 52, 3) := by decide +kernel
theorem dX3_back_31 : decode cX3_back 31 = .ok (.aload_n 0, 1) := by decide +kernel
theorem dX3_back_32 : decode cX3_back 32 = .ok (.getfield 16, 3) := by decide +kernel
theorem dX3_back_35 : decode cX3_back 35 = .ok (.iload_n 1, 1) := by decide +kernel
theorem dX3_back_36 : decode cX3_back 36 = .ok (.iaload, 1) := by decide +kernel
theorem dX3_back_37 : decode cX3_back 37 = .ok (.iconst 1, 1) := by decide +kernel
theorem dX3_back_38 : decode cX3_back 38 = .ok (.iload 6, 2) := by decide +kernel
theorem dX3_back_40 : decode cX3_back 40 = .ok (.iload 5, 2) := by decide +kernel
theorem dX3_back_42 : decode cX3_back 42 = .ok (.idiv, 1) := by decide +kernel
theorem dX3_back_43 : decode cX3_back 43 = .ok (.invokestatic 75, 3) := by decide +kernel
theorem dX3_back_46 : decode cX3_back 46 = .ok (.iadd, 1) := by decide +kernel
theorem dX3_back_47 : decode cX3_back 47 = .ok (.istore 7, 2) := by decide +kernel
theorem dX3_back_49 : decode cX3_back 49 = .ok (.aload_n 0, 1) := by decide +kernel
theorem dX3_back_50 : decode cX3_back 50 = .ok (.getfield 16, 3) := by decide +kernel
theorem dX3_back_53 : decode cX3_back 53 = .ok (.iload_n 1, 1) := by decide +kernel
theorem dX3_back_54 : decode cX3_back 54 = .ok (.iload 7, 2) := by decide +kernel
theorem dX3_back_56 : decode cX3_back 56 = .ok (.aload_n 0, 1) := by decide +kernel
theorem dX3_back_57 : decode cX3_back 57 = .ok (.getfield 13, 3) := by decide +kernel
theorem dX3_back_60 : decode cX3_back 60 = .ok (.iload_n 1, 1) := by decide +kernel
theorem dX3_back_61 : decode cX3_back 61 = .ok (.iaload, 1) := by decide +kernel
theorem dX3_back_62 : decode cX3_back 62 = .ok (.if_icmp .le 12, 3) := by decide +kernel
theorem dX3_back_65 : decode cX3_back 65 = .ok (.aload_n 0, 1) := by decide +kernel
theorem dX3_back_66 : decode cX3_back 66 = .ok (.getfield 13, 3) := by decide +kernel
theorem dX3_back_69 : decode cX3_back 69 = .ok (.iload_n 1, 1) := by decide +kernel
theorem dX3_back_70 : decode cX3_back 70 = .ok (.iaload, 1) := by decide +kernel
theorem dX3_back_71 : decode cX3_back 71 = .ok (.goto 5, 3) := by decide +kernel
theorem dX3_back_74 : decode cX3_back 74 = .ok (.iload 7, 2) := by decide +kernel
theorem dX3_back_76 : decode cX3_back 76 = .ok (.iastore, 1) := by decide +kernel
theorem dX3_back_77 : decode cX3_back 77 = .ok (.goto 33, 3) := by decide +kernel
theorem dX3_back_80 : decode cX3_back 80 = .ok (.aload_n 0, 1) := by decide +kernel
theorem dX3_back_81 : decode cX3_back 81 = .ok (.getfield 16, 3) := by decide +kernel
theorem dX3_back_84 : decode cX3_back 84 = .ok (.iload_n 1, 1) := by decide +kernel
theorem dX3_back_85 : decode cX3_back 85 = .ok (.iaload, 1) := by decide +kernel
theorem dX3_back_86 : decode cX3_back 86 = .ok (.iconst 1, 1) := by decide +kernel
theorem dX3_back_87 : decode cX3_back 87 = .ok (.iload 5, 2) := by decide +kernel
theorem dX3_back_89 : decode cX3_back 89 = .ok (.iload 6, 2) := by decide +kernel
theorem dX3_back_91 : decode cX3_back 91 = .ok (.idiv, 1) := by decide +kernel
theorem dX3_back_92 : decode cX3_back 92 = .ok (.invokestatic 75, 3) := by decide +kernel
theorem dX3_back_95 : decode cX3_back 95 = .ok (.isub, 1) := by decide +kernel
theorem dX3_back_96 : decode cX3_back 96 = .ok (.istore 7, 2) := by decide +kernel
theorem dX3_back_98 : decode cX3_back 98 = .ok (.aload_n 0, 1) := by decide +kernel
theorem dX3_back_99 : decode cX3_back 99 = .ok (.getfield 16, 3) := by decide +kernel
theorem dX3_back_102 : decode cX3_back 102 = .ok (.iload_n 1, 1) := by decide +kernel
theorem dX3_back_103 : decode cX3_back 103 = .ok (.iconst 0, 1) := by decide +kernel
theorem dX3_back_104 : decode cX3_back 104 = .ok (.iload 7, 2) := by decide +kernel
theorem dX3_back_106 : decode cX3_back 106 = .ok (.invokestatic 75, 3) := by decide +kernel
theorem dX3_back_109 : decode cX3_back 109 = .ok (.iastore, 1) := by decide +kernel
theorem dX3_back_110 : decode cX3_back 110 = .ok (.aload_n 0, 1) := by decide +kernel
theorem dX3_back_111 : decode cX3_back 111 = .ok (.iload_n 1, 1) := by decide +kernel
theorem dX3_back_112 : decode cX3_back 112 = .ok (.iload_n 3, 1) := by decide +kernel
theorem dX3_back_113 : decode cX3_back 113 = .ok (.ifCond .ne 7, 3) := by decide +kernel
theorem dX3_back_116 : decode cX3_back 116 = .ok (.iconst 1, 1) := by decide +kernel
theorem dX3_back_117 : decode cX3_back 117 = .ok (.goto 4, 3) := by decide +kernel
theorem dX3_back_120 : decode cX3_back 120 = .ok (.iconst 0, 1) := by decide +kernel
theorem dX3_back_121 : decode cX3_back 121 = .ok (.invokevirtual 78, 3) := by decide +kernel
theorem dX3_back_124 : decode cX3_back 124 = .ok (.aload_n 0, 1) := by decide +kernel
theorem dX3_back_125 : decode cX3_back 125 = .ok (.iload_n 3, 1) := by decide +kernel
theorem dX3_back_126 : decode cX3_back 126 = .ok (.ifCond .eq 10, 3) := by decide +kernel
theorem dX3_back_129 : decode cX3_back 129 = .ok (.iload 4, 2) := by decide +kernel
theorem dX3_back_131 : decode cX3_back 131 = .ok (.iconst 2, 1) := by decide +kernel
theorem dX3_back_132 : decode cX3_back 132 = .ok (.iadd, 1) := by decide +kernel
theorem dX3_back_133 : decode cX3_back 133 = .ok (.goto 7, 3) := by decide +kernel
theorem dX3_back_136 : decode cX3_back 136 = .ok (.iload 4, 2) := by decide +kernel
theorem dX3_back_138 : decode cX3_back 138 = .ok (.iconst 3, 1) := by decide +kernel
theorem dX3_back_139 : decode cX3_back 139 = .ok (.iadd, 1) := by decide +kernel
theorem dX3_back_140 : decode cX3_back 140 = .ok (.iload 4, 2) := by decide +kernel
theorem dX3_back_142 : decode cX3_back 142 = .ok (.iconst 1, 1) := by decide +kernel
theorem dX3_back_143 : decode cX3_back 143 = .ok (.iadd, 1) := by decide +kernel
theorem dX3_back_144 : decode cX3_back 144 = .ok (.iload_n 2, 1) := by decide +kernel
theorem dX3_back_145 : decode cX3_back 145 = .ok (.invokevirtual 57, 3) := by decide +kernel
theorem dX3_back_148 : decode cX3_back 148 = .ok (.return_, 1) := by decide +kernel
set_option maxRecDepth 20000 in
theorem ggX3_balanced_X3_isIn : GoodIn wsX3_balanced wsX3_isIn := goodIn_r _ [8, 9, 10, 11, 7, 12, 2, 13, 42, 43, 44, 45, 46, 47, 48, 49, 50, 51, 52] (by decide +kernel) (by decide +kernel)
set_option maxRecDepth 20000 in
theorem gX3_balanced_X3_isIn : GoodIn wsX3_balanced (wsV RX3 53 RX3 yX3_isIn wsX3_isIn) := goodIn_app (goodIn_of _ (by decide +kernel)) ggX3_balanced_X3_isIn
set_option maxRecDepth 20000 in
theorem ggX3_balanced_X3_move : GoodIn wsX3_balanced wsX3_move := goodIn_r _ [17, 18, 19, 20, 7, 21, 2, 13, 9, 10, 11, 12, 22, 23, 24, 25, 42, 43, 44, 45, 46, 47, 48, 49, 50, 51, 52] (by decide +kernel) (by decide +kernel)
set_option maxRecDepth 20000 in
theorem gX3_balanced_X3_move : GoodIn wsX3_balanced (wsV RX3 57 RX3 yX3_move wsX3_move) := goodIn_app (goodIn_of _ (by decide +kernel)) ggX3_balanced_X3_move
set_option maxRecDepth 20000 in
theorem ggX3_balanced_X3_back : GoodIn wsX3_balanced wsX3_back := goodIn_r _ [29, 2, 30, 1, 31, 32, 7, 33, 34, 35, 36, 37, 3, 38, 39, 40, 41, 13, 22, 23, 24, 25, 14, 15, 16, 17, 18, 19, 20, 21, 9, 10, 11, 12, 42, 43, 44, 45, 46, 47, 48, 49, 50, 51, 52] (by decide +kernel) (by decide +kernel)
set_option maxRecDepth 20000 in
theorem gX3_balanced_X3_back : GoodIn wsX3_balanced (wsV RX3 82 RX3 yX3_back wsX3_back) := goodIn_app (goodIn_of _ (by decide +kernel)) ggX3_balanced_X3_back
set_option maxRecDepth 20000 in
theorem ggX3_balanced_X3_putOut : GoodIn wsX3_balanced wsX3_putOut := goodIn_r _ [37, 2, 30, 3, 38, 39, 40, 7, 41, 13, 22, 23, 24, 25, 42, 43, 44, 45, 46, 47, 48, 49, 50, 51, 52] (by decide +kernel) (by decide +kernel)
set_option maxRecDepth 20000 in
theorem gX3_balanced_X3_putOut : GoodIn wsX3_balanced (wsV RX3 78 RX3 yX3_putOut wsX3_putOut) := goodIn_app (goodIn_of _ (by decide +kernel)) ggX3_balanced_X3_putOut
set_option maxRecDepth 20000 in
theorem ggX3_balanced_X3_cutTail : GoodIn wsX3_balanced wsX3_cutTail := goodIn_r _ [41, 2, 13, 42, 43, 44, 45, 46, 47, 48, 49, 50, 51, 52] (by decide +kernel) (by decide +kernel)
set_option maxRecDepth 20000 in
theorem gX3_balanced_X3_cutTail : GoodIn wsX3_balanced (wsV RX3 61 RX3 yX3_cutTail wsX3_cutTail) := goodIn_app (goodIn_of _ (by decide +kernel)) ggX3_balanced_X3_cutTail
set_option maxRecDepth 20000 in
theorem ggX3_balanced_X3_toHead : GoodIn wsX3_balanced wsX3_toHead := goodIn_r _ [25, 2, 13, 42, 43, 44, 45, 46, 47, 48, 49, 50, 51, 52] (by decide +kernel) (by decide +kernel)
set_option maxRecDepth 20000 in
theorem gX3_balanced_X3_toHead : GoodIn wsX3_balanced (wsV RX3 50 RX3 yX3_toHead wsX3_toHead) := goodIn_app (goodIn_of _ (by decide +kernel)) ggX3_balanced_X3_toHead
theorem dX3_balanced_0 : decode cX3_balanced 0 = .ok (.iconst 4, 1) := by decide +kernel
theorem dX3_balanced_1 : decode cX3_balanced 1 = .ok (.iload_n 1, 1) := by decide +kernel
theorem dX3_balanced_2 : decode cX3_balanced 2 = .ok (.imul, 1) := by decide +kernel
theorem dX3_balanced_3 : decode cX3_balanced 3 = .ok (.istore_n 3, 1) := by decide +kernel
theorem dX3_balanced_4 : decode cX3_balanced 4 = .ok (.aload_n 0, 1) := by decide +kernel
theorem dX3_balanced_5 : decode cX3_balanced 5 = .ok (.getfield 13, 3) := by decide +kernel
theorem dX3_balanced_8 : decode cX3_balanced 8 = .ok (.iload_n 1, 1) := by decide +kernel
theorem dX3_balanced_9 : decode cX3_balanced 9 = .ok (.iaload, 1) := by decide +kernel
theorem dX3_balanced_10 : decode cX3_balanced 10 = .ok (.istore 4, 2) := by decide +kernel
theorem dX3_balanced_12 : decode cX3_balanced 12 = .ok (.aload_n 0, 1) := by decide +kernel
theorem dX3_balanced_13 : decode cX3_balanced 13 = .ok (.iload_n 3, 1) := by decide +kernel
theorem dX3_balanced_14 : decode cX3_balanced 14 = .ok (.iload_n 2, 1) := by decide +kernel
theorem dX3_balanced_15 : decode cX3_balanced 15 = .ok (.invokevirtual 53, 3) := by decide +kernel
theorem dX3_balanced_18 : decode cX3_balanced 18 = .ok (.ifCond .ne 14, 3) := by decide +kernel
theorem dX3_balanced_21 : decode cX3_balanced 21 = .ok (.aload_n 0, 1) := by decide +kernel
theorem dX3_balanced_22 : decode cX3_balanced 22 = .ok (.iload_n 3, 1) := by decide +kernel
theorem dX3_balanced_23 : decode cX3_balanced 23 = .ok (.iconst 1, 1) := by decide +kernel
theorem dX3_balanced_24 : decode cX3_balanced 24 = .ok (.iadd, 1) := by decide +kernel
theorem dX3_balanced_25 : decode cX3_balanced 25 = .ok (.iload_n 2, 1) := by decide +kernel
theorem dX3_balanced_26 : decode cX3_balanced 26 = .ok (.invokevirtual 53, 3) := by decide +kernel
theorem dX3_balanced_29 : decode cX3_balanced 29 = .ok (.ifCond .eq 29, 3) := by decide +kernel
theorem dX3_balanced_32 : decode cX3_balanced 32 = .ok (.aload_n 0, 1) := by decide +kernel
theorem dX3_balanced_33 : decode cX3_balanced 33 = .ok (.aload_n 0, 1) := by decide +kernel
theorem dX3_balanced_34 : decode cX3_balanced 34 = .ok (.iload_n 3, 1) := by decide +kernel
theorem dX3_balanced_35 : decode cX3_balanced 35 = .ok (.iload_n 2, 1) := by decide +kernel
theorem dX3_balanced_36 : decode cX3_balanced 36 = .ok (.invokevirtual 53, 3) := by decide +kernel
theorem dX3_balanced_39 : decode cX3_balanced 39 = .ok (.ifCond .eq 7, 3) := by decide +kernel
theorem dX3_balanced_42 : decode cX3_balanced 42 = .ok (.iload_n 3, 1) := by decide +kernel
theorem dX3_balanced_43 : decode cX3_balanced 43 = .ok (.goto 6, 3) := by decide +kernel
theorem dX3_balanced_46 : decode cX3_balanced 46 = .ok (.iload_n 3, 1) := by decide +kernel
theorem dX3_balanced_47 : decode cX3_balanced 47 = .ok (.iconst 1, 1) := by decide +kernel
theorem dX3_balanced_48 : decode cX3_balanced 48 = .ok (.iadd, 1) := by decide +kernel
theorem dX3_balanced_49 : decode cX3_balanced 49 = .ok (.iload_n 3, 1) := by decide +kernel
theorem dX3_balanced_50 : decode cX3_balanced 50 = .ok (.iconst 1, 1) := by decide +kernel
theorem dX3_balanced_51 : decode cX3_balanced 51 = .ok (.iadd, 1) := by decide +kernel
theorem dX3_balanced_52 : decode cX3_balanced 52 = .ok (.iload_n 2, 1) := by decide +kernel
theorem dX3_balanced_53 : decode cX3_balanced 53 = .ok (.invokevirtual 57, 3) := by decide +kernel
theorem dX3_balanced_56 : decode cX3_balanced 56 = .ok (.iconst 1, 1) := by decide +kernel
theorem dX3_balanced_57 : decode cX3_balanced 57 = .ok (.ireturn, 1) := by decide +kernel
theorem dX3_balanced_58 : decode cX3_balanced 58 = .ok (.aload_n 0, 1) := by decide +kernel
theorem dX3_balanced_59 : decode cX3_balanced 59 = .ok (.iload_n 3, 1) := by decide +kernel
theorem dX3_balanced_60 : decode cX3_balanced 60 = .ok (.iconst 2, 1) := by decide +kernel
theorem dX3_balanced_61 : decode cX3_balanced 61 = .ok (.iadd, 1) := by decide +kernel
theorem dX3_balanced_62 : decode cX3_balanced 62 = .ok (.iload_n 2, 1) := by decide +kernel
theorem dX3_balanced_63 : decode cX3_balanced 63 = .ok (.invokevirtual 53, 3) := by decide +kernel
theorem dX3_balanced_66 : decode cX3_balanced 66 = .ok (.ifCond .ne 14, 3) := by decide +kernel
theorem dX3_balanced_69 : decode cX3_balanced 69 = .ok (.aload_n 0, 1) := by decide +kernel
theorem dX3_balanced_70 : decode cX3_balanced 70 = .ok (.iload_n 3, 1) := by decide +kernel
theorem dX3_balanced_71 : decode cX3_balanced 71 = .ok (.iconst 3, 1) := by decide +kernel
theorem dX3_balanced_72 : decode cX3_balanced 72 = .ok (.iadd, 1) := by decide +kernel
theorem dX3_balanced_73 : decode cX3_balanced 73 = .ok (.iload_n 2, 1) := by decide +kernel
theorem dX3_balanced_74 : decode cX3_balanced 74 = .ok (.invokevirtual 53, 3) := by decide +kernel
theorem dX3_balanced_77 : decode cX3_balanced 77 = .ok (.ifCond .eq 19, 3) := by decide +kernel
theorem dX3_balanced_80 : decode cX3_balanced 80 = .ok (.aload_n 0, 1) := by decide +kernel
theorem dX3_balanced_81 : decode cX3_balanced 81 = .ok (.iload_n 1, 1) := by decide +kernel
theorem dX3_balanced_82 : decode cX3_balanced 82 = .ok (.iload_n 2, 1) := by decide +kernel
theorem dX3_balanced_83 : decode cX3_balanced 83 = .ok (.aload_n 0, 1) := by decide +kernel
theorem dX3_balanced_84 : decode cX3_balanced 84 = .ok (.iload_n 3, 1) := by decide +kernel
theorem dX3_balanced_85 : decode cX3_balanced 85 = .ok (.iconst 2, 1) := by decide +kernel
theorem dX3_balanced_86 : decode cX3_balanced 86 = .ok (.iadd, 1) := by decide +kernel
theorem dX3_balanced_87 : decode cX3_balanced 87 = .ok (.iload_n 2, 1) := by decide +kernel
theorem dX3_balanced_88 : decode cX3_balanced 88 = .ok (.invokevirtual 53, 3) := by decide +kernel
theorem dX3_balanced_91 : decode cX3_balanced 91 = .ok (.invokevirtual 82, 3) := by decide +kernel
theorem dX3_balanced_94 : decode cX3_balanced 94 = .ok (.iconst 0, 1) := by decide +kernel
theorem dX3_balanced_95 : decode cX3_balanced 95 = .ok (.ireturn, 1) := by decide +kernel
theorem dX3_balanced_96 : decode cX3_balanced 96 = .ok (.aload_n 0, 1) := by decide +kernel
theorem dX3_balanced_97 : decode cX3_balanced 97 = .ok (.getfield 19, 3) := by decide +kernel
theorem dX3_balanced_100 : decode cX3_balanced 100 = .ok (.iload_n 3, 1) := by decide +kernel
theorem dX3_balanced_101 : decode cX3_balanced 101 = .ok (.iaload, 1) := by decide +kernel
theorem dX3_balanced_102 : decode cX3_balanced 102 = .ok (.aload_n 0, 1) := by decide +kernel
theorem dX3_balanced_103 : decode cX3_balanced 103 = .ok (.getfield 19, 3) := by decide +kernel
theorem dX3_balanced_106 : decode cX3_balanced 106 = .ok (.iload_n 3, 1) := by decide +kernel
theorem dX3_balanced_107 : decode cX3_balanced 107 = .ok (.iconst 2, 1) := by decide +kernel
theorem dX3_balanced_108 : decode cX3_balanced 108 = .ok (.iadd, 1) := by decide +kernel
theorem dX3_balanced_109 : decode cX3_balanced 109 = .ok (.iaload, 1) := by decide +kernel
theorem dX3_balanced_110 : decode cX3_balanced 110 = .ok (.iadd, 1) := by decide +kernel
theorem dX3_balanced_111 : decode cX3_balanced 111 = .ok (.istore 5, 2) := by decide +kernel
theorem dX3_balanced_113 : decode cX3_balanced 113 = .ok (.iload 5, 2) := by decide +kernel
theorem dX3_balanced_115 : decode cX3_balanced 115 = .ok (.aload_n 0, 1) := by decide +kernel
theorem dX3_balanced_116 : decode cX3_balanced 116 = .ok (.getfield 19, 3) := by decide +kernel
theorem dX3_balanced_119 : decode cX3_balanced 119 = .ok (.iload_n 3, 1) := by decide +kernel
theorem dX3_balanced_120 : decode cX3_balanced 120 = .ok (.iconst 1, 1) := by decide +kernel
theorem dX3_balanced_121 : decode cX3_balanced 121 = .ok (.iadd, 1) := by decide +kernel
theorem dX3_balanced_122 : decode cX3_balanced 122 = .ok (.iaload, 1) := by decide +kernel
theorem dX3_balanced_123 : decode cX3_balanced 123 = .ok (.iadd, 1) := by decide +kernel
theorem dX3_balanced_124 : decode cX3_balanced 124 = .ok (.aload_n 0, 1) := by decide +kernel
theorem dX3_balanced_125 : decode cX3_balanced 125 = .ok (.getfield 19, 3) := by decide +kernel
theorem dX3_balanced_128 : decode cX3_balanced 128 = .ok (.iload_n 3, 1) := by decide +kernel
theorem dX3_balanced_129 : decode cX3_balanced 129 = .ok (.iconst 3, 1) := by decide +kernel
theorem dX3_balanced_130 : decode cX3_balanced 130 = .ok (.iadd, 1) := by decide +kernel
theorem dX3_balanced_131 : decode cX3_balanced 131 = .ok (.iaload, 1) := by decide +kernel
theorem dX3_balanced_132 : decode cX3_balanced 132 = .ok (.iadd, 1) := by decide +kernel
theorem dX3_balanced_133 : decode cX3_balanced 133 = .ok (.istore 6, 2) := by decide +kernel
theorem dX3_balanced_135 : decode cX3_balanced 135 = .ok (.iload 5, 2) := by decide +kernel
theorem dX3_balanced_137 : decode cX3_balanced 137 = .ok (.iload 4, 2) := by decide +kernel
theorem dX3_balanced_139 : decode cX3_balanced 139 = .ok (.if_icmp .ne 53, 3) := by decide +kernel
theorem dX3_balanced_142 : decode cX3_balanced 142 = .ok (.aload_n 0, 1) := by decide +kernel
theorem dX3_balanced_143 : decode cX3_balanced 143 = .ok (.getfield 19, 3) := by decide +kernel
theorem dX3_balanced_146 : decode cX3_balanced 146 = .ok (.iload_n 3, 1) := by decide +kernel
theorem dX3_balanced_147 : decode cX3_balanced 147 = .ok (.iaload, 1) := by decide +kernel
theorem dX3_balanced_148 : decode cX3_balanced 148 = .ok (.iload 4, 2) := by decide +kernel
theorem dX3_balanced_150 : decode cX3_balanced 150 = .ok (.if_icmp .ge 30, 3) := by decide +kernel
theorem dX3_balanced_153 : decode cX3_balanced 153 = .ok (.aload_n 0, 1) := by decide +kernel
theorem dX3_balanced_154 : decode cX3_balanced 154 = .ok (.getfield 19, 3) := by decide +kernel
theorem dX3_balanced_157 : decode cX3_balanced 157 = .ok (.iload_n 3, 1) := by decide +kernel
theorem dX3_balanced_158 : decode cX3_balanced 158 = .ok (.iconst 2, 1) := by decide +kernel
theorem dX3_balanced_159 : decode cX3_balanced 159 = .ok (.iadd, 1) := by decide +kernel
theorem dX3_balanced_160 : decode cX3_balanced 160 = .ok (.aload_n 0, 1) := by decide +kernel
theorem dX3_balanced_161 : decode cX3_balanced 161 = .ok (.getfield 19, 3) := by decide +kernel
theorem dX3_balanced_164 : decode cX3_balanced 164 = .ok (.iload_n 3, 1) := by decide +kernel
theorem dX3_balanced_165 : decode cX3_balanced 165 = .ok (.iconst 2, 1) := by decide +kernel
theorem dX3_balanced_166 : decode cX3_balanced 166 = .ok (.iadd, 1) := by decide +kernel
theorem dX3_balanced_167 : decode cX3_balanced 167 = .ok (.iaload, 1) := by decide +kernel
theorem dX3_balanced_168 : decode cX3_balanced 168 = .ok (.iconst 1, 1) := by decide +kernel
theorem dX3_balanced_169 : decode cX3_balanced 169 = .ok (.isub, 1) := by decide +kernel
theorem dX3_balanced_170 : decode cX3_balanced 170 = .ok (.iastore, 1) := by decide +kernel
theorem dX3_balanced_171 : decode cX3_balanced 171 = .ok (.aload_n 0, 1) := by decide +kernel
theorem dX3_balanced_172 : decode cX3_balanced 172 = .ok (.iload_n 1, 1) := by decide +kernel
theorem dX3_balanced_173 : decode cX3_balanced 173 = .ok (.iconst 0, 1) := by decide +kernel
theorem dX3_balanced_174 : decode cX3_balanced 174 = .ok (.invokevirtual 78, 3) := by decide +kernel
theorem dX3_balanced_177 : decode cX3_balanced 177 = .ok (.goto 66, 3) := by decide +kernel
theorem dX3_balanced_180 : decode cX3_balanced 180 = .ok (.aload_n 0, 1) := by decide +kernel
theorem dX3_balanced_181 : decode cX3_balanced 181 = .ok (.aload_n 0, 1) := by decide +kernel
theorem dX3_balanced_182 : decode cX3_balanced 182 = .ok (.iload_n 3, 1) := by decide +kernel
theorem dX3_balanced_183 : decode cX3_balanced 183 = .ok (.invokevirtual 61, 3) := by decide +kernel
theorem dX3_balanced_186 : decode cX3_balanced 186 = .ok (.putfield 65, 3) := by decide +kernel
theorem dX3_balanced_189 : decode cX3_balanced 189 = .ok (.goto 54, 3) := by decide +kernel
theorem dX3_balanced_192 : decode cX3_balanced 192 = .ok (.iload 6, 2) := by decide +kernel
theorem dX3_balanced_194 : decode cX3_balanced 194 = .ok (.iload 4, 2) := by decide +kernel
theorem dX3_balanced_196 : decode cX3_balanced 196 = .ok (.if_icmp .lt 47, 3) := by decide +kernel
theorem dX3_balanced_199 : decode cX3_balanced 199 = .ok (.aload_n 0, 1) := by decide +kernel
theorem dX3_balanced_200 : decode cX3_balanced 200 = .ok (.getfield 19, 3) := by decide +kernel
theorem dX3_balanced_203 : decode cX3_balanced 203 = .ok (.iload_n 3, 1) := by decide +kernel
theorem dX3_balanced_204 : decode cX3_balanced 204 = .ok (.iconst 3, 1) := by decide +kernel
theorem dX3_balanced_205 : decode cX3_balanced 205 = .ok (.iadd, 1) := by decide +kernel
theorem dX3_balanced_206 : decode cX3_balanced 206 = .ok (.iload 6, 2) := by decide +kernel
theorem dX3_balanced_208 : decode cX3_balanced 208 = .ok (.iconst 2, 1) := by decide +kernel
theorem dX3_balanced_209 : decode cX3_balanced 209 = .ok (.iload 4, 2) := by decide +kernel
theorem dX3_balanced_211 : decode cX3_balanced 211 = .ok (.imul, 1) := by decide +kernel
theorem dX3_balanced_212 : decode cX3_balanced 212 = .ok (.if_icmp .ne 16, 3) := by decide +kernel
theorem dX3_balanced_215 : decode cX3_balanced 215 = .ok (.aload_n 0, 1) := by decide +kernel
theorem dX3_balanced_216 : decode cX3_balanced 216 = .ok (.getfield 19, 3) := by decide +kernel
theorem dX3_balanced_219 : decode cX3_balanced 219 = .ok (.iload_n 3, 1) := by decide +kernel
theorem dX3_balanced_220 : decode cX3_balanced 220 = .ok (.iconst 3, 1) := by decide +kernel
theorem dX3_balanced_221 : decode cX3_balanced 221 = .ok (.iadd, 1) := by decide +kernel
theorem dX3_balanced_222 : decode cX3_balanced 222 = .ok (.iaload, 1) := by decide +kernel
theorem dX3_balanced_223 : decode cX3_balanced 223 = .ok (.iconst 1, 1) := by decide +kernel
theorem dX3_balanced_224 : decode cX3_balanced 224 = .ok (.isub, 1) := by decide +kernel
theorem dX3_balanced_225 : decode cX3_balanced 225 = .ok (.goto 11, 3) := by decide +kernel
theorem dX3_balanced_228 : decode cX3_balanced 228 = .ok (.aload_n 0, 1) := by decide +kernel
theorem dX3_balanced_229 : decode cX3_balanced 229 = .ok (.getfield 19, 3) := by decide +kernel
theorem dX3_balanced_232 : decode cX3_balanced 232 = .ok (.iload_n 3, 1) := by decide +kernel
theorem dX3_balanced_233 : decode cX3_balanced 233 = .ok (.iconst 3, 1) := by decide +kernel
theorem dX3_balanced_234 : decode cX3_balanced 234 = .ok (.iadd, 1) := by decide +kernel
theorem dX3_balanced_235 : decode cX3_balanced 235 = .ok (.iaload, 1) := by decide +kernel
theorem dX3_balanced_236 : decode cX3_balanced 236 = .ok (.iastore, 1) := by decide +kernel
theorem dX3_balanced_237 : decode cX3_balanced 237 = .ok (.aload_n 0, 1) := by decide +kernel
theorem dX3_balanced_238 : decode cX3_balanced 238 = .ok (.iload_n 1, 1) := by decide +kernel
theorem dX3_balanced_239 : decode cX3_balanced 239 = .ok (.iconst 0, 1) := by decide +kernel
theorem dX3_balanced_240 : decode cX3_balanced 240 = .ok (.invokevirtual 78, 3) := by decide +kernel
theorem dX3_balanced_243 : decode cX3_balanced 243 = .ok (.aload_n 0, 1) := by decide +kernel
theorem dX3_balanced_244 : decode cX3_balanced 244 = .ok (.iload_n 3, 1) := by decide +kernel
theorem dX3_balanced_245 : decode cX3_balanced 245 = .ok (.iload_n 2, 1) := by decide +kernel
theorem dX3_balanced_246 : decode cX3_balanced 246 = .ok (.invokevirtual 50, 3) := by decide +kernel
theorem dX3_balanced_249 : decode cX3_balanced 249 = .ok (.iconst 0, 1) := by decide +kernel
theorem dX3_balanced_250 : decode cX3_balanced 250 = .ok (.ireturn, 1) := by decide +kernel
set_option maxRecDepth 20000 in
theorem ggX3_touch_X3_recent : GoodIn wsX3_touch wsX3_recent := goodIn_r _ [8, 9, 10, 1, 11, 12, 13, 7, 14, 15, 16, 17, 18, 19, 20, 21, 22, 23, 24, 25, 26, 27, 28, 29, 30, 31, 32, 33, 34, 35, 69, 70, 71, 72, 73, 74, 75, 76, 77, 78, 79] (by decide +kernel) (by decide +kernel)
set_option maxRecDepth 20000 in
theorem gX3_touch_X3_recent : GoodIn wsX3_touch (wsV RX3 86 RX3 yX3_recent wsX3_recent) := goodIn_app (goodIn_of _ (by decide +kernel)) ggX3_touch_X3_recent
set_option maxRecDepth 20000 in
theorem ggX3_touch_X3_clock : GoodIn wsX3_touch wsX3_clock := goodIn_r _ [39, 40, 9, 10, 19, 1, 11, 12, 13, 7, 14, 15, 16, 17, 18, 24, 25, 26, 27, 41, 42, 43, 44, 69, 70, 71, 72, 73, 74, 75, 76, 77, 78, 79] (by decide +kernel) (by decide +kernel)
set_option maxRecDepth 20000 in
theorem gX3_touch_X3_clock : GoodIn wsX3_touch (wsV RX3 89 RX3 yX3_clock wsX3_clock) := goodIn_app (goodIn_of _ (by decide +kernel)) ggX3_touch_X3_clock
set_option maxRecDepth 20000 in
theorem ggX3_touch_X3_queues : GoodIn wsX3_touch wsX3_queues := goodIn_r _ [48, 11, 12, 13, 7, 14, 15, 16, 17, 18, 9, 19, 20, 21, 22, 23, 24, 25, 26, 27, 28, 29, 30, 31, 49, 50, 51, 52, 10, 1, 32, 33, 34, 35, 69, 70, 71, 72, 73, 74, 75, 76, 77, 78, 79] (by decide +kernel) (by decide +kernel)
set_option maxRecDepth 20000 in
theorem gX3_touch_X3_queues : GoodIn wsX3_touch (wsV RX3 92 RX3 yX3_queues wsX3_queues) := goodIn_app (goodIn_of _ (by decide +kernel)) ggX3_touch_X3_queues
set_option maxRecDepth 20000 in
theorem ggX3_touch_X3_balanced : GoodIn wsX3_touch wsX3_balanced := goodIn_r _ [56, 10, 9, 1, 11, 12, 13, 7, 14, 15, 16, 17, 18, 19, 20, 21, 22, 23, 24, 25, 26, 27, 28, 29, 30, 31, 57, 58, 59, 60, 61, 62, 63, 64, 65, 66, 67, 68, 32, 33, 34, 35, 69, 70, 71, 72, 73, 74, 75, 76, 77, 78, 79] (by decide +kernel) (by decide +kernel)
set_option maxRecDepth 20000 in
theorem gX3_touch_X3_balanced : GoodIn wsX3_touch (wsV RX3 95 RX3 yX3_balanced wsX3_balanced) := goodIn_app (goodIn_of _ (by decide +kernel)) ggX3_touch_X3_balanced
theorem dX3_touch_0 : decode cX3_touch 0 = .ok (.aload_n 0, 1) := by decide +kernel
theorem dX3_touch_1 : decode cX3_touch 1 = .ok (.iconst (-1), 1) := by decide +kernel
theorem dX3_touch_2 : decode cX3_touch 2 = .ok (.putfield 65, 3) := by decide +kernel
theorem dX3_touch_5 : decode cX3_touch 5 = .ok (.aload_n 0, 1) := by decide +kernel
theorem dX3_touch_6 : decode cX3_touch 6 = .ok (.getfield 7, 3) := by decide +kernel
theorem dX3_touch_9 : decode cX3_touch 9 = .ok (.iload_n 1, 1) := by decide +kernel
theorem dX3_touch_10 : decode cX3_touch 10 = .ok (.iaload, 1) := by decide +kernel
theorem dX3_touch_11 : decode cX3_touch 11 = .ok (.ifCond .ne 12, 3) := by decide +kernel
theorem dX3_touch_14 : decode cX3_touch 14 = .ok (.aload_n 0, 1) := by decide +kernel
theorem dX3_touch_15 : decode cX3_touch 15 = .ok (.iload_n 1, 1) := by decide +kernel
theorem dX3_touch_16 : decode cX3_touch 16 = .ok (.iload_n 2, 1) := by decide +kernel
theorem dX3_touch_17 : decode cX3_touch 17 = .ok (.invokevirtual 86, 3) := by decide +kernel
theorem dX3_touch_20 : decode cX3_touch 20 = .ok (.goto 47, 3) := by decide +kernel
theorem dX3_touch_23 : decode cX3_touch 23 = .ok (.aload_n 0, 1) := by decide +kernel
theorem dX3_touch_24 : decode cX3_touch 24 = .ok (.getfield 7, 3) := by decide +kernel
theorem dX3_touch_27 : decode cX3_touch 27 = .ok (.iload_n 1, 1) := by decide +kernel
theorem dX3_touch_28 : decode cX3_touch 28 = .ok (.iaload, 1) := by decide +kernel
theorem dX3_touch_29 : decode cX3_touch 29 = .ok (.iconst 1, 1) := by decide +kernel
theorem dX3_touch_30 : decode cX3_touch 30 = .ok (.if_icmp .ne 12, 3) := by decide +kernel
theorem dX3_touch_33 : decode cX3_touch 33 = .ok (.aload_n 0, 1) := by decide +kernel
theorem dX3_touch_34 : decode cX3_touch 34 = .ok (.iload_n 1, 1) := by decide +kernel
theorem dX3_touch_35 : decode cX3_touch 35 = .ok (.iload_n 2, 1) := by decide +kernel
theorem dX3_touch_36 : decode cX3_touch 36 = .ok (.invokevirtual 89, 3) := by decide +kernel
theorem dX3_touch_39 : decode cX3_touch 39 = .ok (.goto 28, 3) := by decide +kernel
theorem dX3_touch_42 : decode cX3_touch 42 = .ok (.aload_n 0, 1) := by decide +kernel
theorem dX3_touch_43 : decode cX3_touch 43 = .ok (.getfield 7, 3) := by decide +kernel
theorem dX3_touch_46 : decode cX3_touch 46 = .ok (.iload_n 1, 1) := by decide +kernel
theorem dX3_touch_47 : decode cX3_touch 47 = .ok (.iaload, 1) := by decide +kernel
theorem dX3_touch_48 : decode cX3_touch 48 = .ok (.iconst 2, 1) := by decide +kernel
theorem dX3_touch_49 : decode cX3_touch 49 = .ok (.if_icmp .ne 12, 3) := by decide +kernel
theorem dX3_touch_52 : decode cX3_touch 52 = .ok (.aload_n 0, 1) := by decide +kernel
theorem dX3_touch_53 : decode cX3_touch 53 = .ok (.iload_n 1, 1) := by decide +kernel
theorem dX3_touch_54 : decode cX3_touch 54 = .ok (.iload_n 2, 1) := by decide +kernel
theorem dX3_touch_55 : decode cX3_touch 55 = .ok (.invokevirtual 92, 3) := by decide +kernel
theorem dX3_touch_58 : decode cX3_touch 58 = .ok (.goto 9, 3) := by decide +kernel
theorem dX3_touch_61 : decode cX3_touch 61 = .ok (.aload_n 0, 1) := by decide +kernel
theorem dX3_touch_62 : decode cX3_touch 62 = .ok (.iload_n 1, 1) := by decide +kernel
theorem dX3_touch_63 : decode cX3_touch 63 = .ok (.iload_n 2, 1) := by decide +kernel
theorem dX3_touch_64 : decode cX3_touch 64 = .ok (.invokevirtual 95, 3) := by decide +kernel
theorem dX3_touch_67 : decode cX3_touch 67 = .ok (.istore_n 3, 1) := by decide +kernel
theorem dX3_touch_68 : decode cX3_touch 68 = .ok (.iload_n 3, 1) := by decide +kernel
theorem dX3_touch_69 : decode cX3_touch 69 = .ok (.ifCond .eq 9, 3) := by decide +kernel
theorem dX3_touch_72 : decode cX3_touch 72 = .ok (.iconst 3, 1) := by decide +kernel
theorem dX3_touch_73 : decode cX3_touch 73 = .ok (.iload_n 1, 1) := by decide +kernel
theorem dX3_touch_74 : decode cX3_touch 74 = .ok (.imul, 1) := by decide +kernel
theorem dX3_touch_75 : decode cX3_touch 75 = .ok (.goto 8, 3) := by decide +kernel
theorem dX3_touch_78 : decode cX3_touch 78 = .ok (.iconst 3, 1) := by decide +kernel
theorem dX3_touch_79 : decode cX3_touch 79 = .ok (.iload_n 1, 1) := by decide +kernel
theorem dX3_touch_80 : decode cX3_touch 80 = .ok (.imul, 1) := by decide +kernel
theorem dX3_touch_81 : decode cX3_touch 81 = .ok (.iconst 1, 1) := by decide +kernel
theorem dX3_touch_82 : decode cX3_touch 82 = .ok (.iadd, 1) := by decide +kernel
theorem dX3_touch_83 : decode cX3_touch 83 = .ok (.istore 4, 2) := by decide +kernel
theorem dX3_touch_85 : decode cX3_touch 85 = .ok (.aload_n 0, 1) := by decide +kernel
theorem dX3_touch_86 : decode cX3_touch 86 = .ok (.getfield 32, 3) := by decide +kernel
theorem dX3_touch_89 : decode cX3_touch 89 = .ok (.iload 4, 2) := by decide +kernel
theorem dX3_touch_91 : decode cX3_touch 91 = .ok (.aload_n 0, 1) := by decide +kernel
theorem dX3_touch_92 : decode cX3_touch 92 = .ok (.getfield 32, 3) := by decide +kernel
theorem dX3_touch_95 : decode cX3_touch 95 = .ok (.iload 4, 2) := by decide +kernel
theorem dX3_touch_97 : decode cX3_touch 97 = .ok (.iaload, 1) := by decide +kernel
theorem dX3_touch_98 : decode cX3_touch 98 = .ok (.iconst 1, 1) := by decide +kernel
theorem dX3_touch_99 : decode cX3_touch 99 = .ok (.iadd, 1) := by decide +kernel
theorem dX3_touch_100 : decode cX3_touch 100 = .ok (.iastore, 1) := by decide +kernel
theorem dX3_touch_101 : decode cX3_touch 101 = .ok (.iload_n 3, 1) := by decide +kernel
theorem dX3_touch_102 : decode cX3_touch 102 = .ok (.ireturn, 1) := by decide +kernel
theorem dX3_dries_0 : decode cX3_dries 0 = .ok (.iload_n 2, 1) := by decide +kernel
theorem dX3_dries_1 : decode cX3_dries 1 = .ok (.ifCond .lt 21, 3) := by decide +kernel
theorem dX3_dries_4 : decode cX3_dries 4 = .ok (.aload_n 0, 1) := by decide +kernel
theorem dX3_dries_5 : decode cX3_dries 5 = .ok (.getfield 29, 3) := by decide +kernel
theorem dX3_dries_8 : decode cX3_dries 8 = .ok (.bipush 64, 2) := by decide +kernel
theorem dX3_dries_10 : decode cX3_dries 10 = .ok (.iload_n 1, 1) := by decide +kernel
theorem dX3_dries_11 : decode cX3_dries 11 = .ok (.imul, 1) := by decide +kernel
theorem dX3_dries_12 : decode cX3_dries 12 = .ok (.iload_n 2, 1) := by decide +kernel
theorem dX3_dries_13 : decode cX3_dries 13 = .ok (.iadd, 1) := by decide +kernel
theorem dX3_dries_14 : decode cX3_dries 14 = .ok (.baload, 1) := by decide +kernel
theorem dX3_dries_15 : decode cX3_dries 15 = .ok (.ifCond .eq 7, 3) := by decide +kernel
theorem dX3_dries_18 : decode cX3_dries 18 = .ok (.iconst 1, 1) := by decide +kernel
theorem dX3_dries_19 : decode cX3_dries 19 = .ok (.goto 4, 3) := by decide +kernel
theorem dX3_dries_22 : decode cX3_dries 22 = .ok (.iconst 0, 1) := by decide +kernel
theorem dX3_dries_23 : decode cX3_dries 23 = .ok (.istore_n 3, 1) := by decide +kernel
theorem dX3_dries_24 : decode cX3_dries 24 = .ok (.iload_n 3, 1) := by decide +kernel
theorem dX3_dries_25 : decode cX3_dries 25 = .ok (.ifCond .eq 37, 3) := by decide +kernel
theorem dX3_dries_28 : decode cX3_dries 28 = .ok (.aload_n 0, 1) := by decide +kernel
theorem dX3_dries_29 : decode cX3_dries 29 = .ok (.getfield 29, 3) := by decide +kernel
theorem dX3_dries_32 : decode cX3_dries 32 = .ok (.bipush 64, 2) := by decide +kernel
theorem dX3_dries_34 : decode cX3_dries 34 = .ok (.iload_n 1, 1) := by decide +kernel
theorem dX3_dries_35 : decode cX3_dries 35 = .ok (.imul, 1) := by decide +kernel
theorem dX3_dries_36 : decode cX3_dries 36 = .ok (.iload_n 2, 1) := by decide +kernel
theorem dX3_dries_37 : decode cX3_dries 37 = .ok (.iadd, 1) := by decide +kernel
theorem dX3_dries_38 : decode cX3_dries 38 = .ok (.iconst 0, 1) := by decide +kernel
theorem dX3_dries_39 : decode cX3_dries 39 = .ok (.bastore, 1) := by decide +kernel
theorem dX3_dries_40 : decode cX3_dries 40 = .ok (.aload_n 0, 1) := by decide +kernel
theorem dX3_dries_41 : decode cX3_dries 41 = .ok (.getfield 32, 3) := by decide +kernel
theorem dX3_dries_44 : decode cX3_dries 44 = .ok (.iconst 3, 1) := by decide +kernel
theorem dX3_dries_45 : decode cX3_dries 45 = .ok (.iload_n 1, 1) := by decide +kernel
theorem dX3_dries_46 : decode cX3_dries 46 = .ok (.imul, 1) := by decide +kernel
theorem dX3_dries_47 : decode cX3_dries 47 = .ok (.iconst 2, 1) := by decide +kernel
theorem dX3_dries_48 : decode cX3_dries 48 = .ok (.iadd, 1) := by decide +kernel
theorem dX3_dries_49 : decode cX3_dries 49 = .ok (.aload_n 0, 1) := by decide +kernel
theorem dX3_dries_50 : decode cX3_dries 50 = .ok (.getfield 32, 3) := by decide +kernel
theorem dX3_dries_53 : decode cX3_dries 53 = .ok (.iconst 3, 1) := by decide +kernel
theorem dX3_dries_54 : decode cX3_dries 54 = .ok (.iload_n 1, 1) := by decide +kernel
theorem dX3_dries_55 : decode cX3_dries 55 = .ok (.imul, 1) := by decide +kernel
theorem dX3_dries_56 : decode cX3_dries 56 = .ok (.iconst 2, 1) := by decide +kernel
theorem dX3_dries_57 : decode cX3_dries 57 = .ok (.iadd, 1) := by decide +kernel
theorem dX3_dries_58 : decode cX3_dries 58 = .ok (.iaload, 1) := by decide +kernel
theorem dX3_dries_59 : decode cX3_dries 59 = .ok (.iconst 1, 1) := by decide +kernel
theorem dX3_dries_60 : decode cX3_dries 60 = .ok (.iadd, 1) := by decide +kernel
theorem dX3_dries_61 : decode cX3_dries 61 = .ok (.iastore, 1) := by decide +kernel
theorem dX3_dries_62 : decode cX3_dries 62 = .ok (.iload_n 3, 1) := by decide +kernel
theorem dX3_dries_63 : decode cX3_dries 63 = .ok (.ireturn, 1) := by decide +kernel
set_option maxRecDepth 20000 in
theorem ggX3_askLower_X3_touch : GoodIn wsX3_askLower wsX3_touch := goodIn_r _ [9, 2, 10, 11, 12, 13, 14, 8, 15, 16, 17, 18, 19, 20, 21, 22, 23, 24, 25, 26, 27, 28, 29, 30, 31, 32, 33, 34, 35, 36, 37, 38, 39, 40, 41, 42, 43, 44, 45, 46, 47, 48, 49, 50, 51, 52, 53, 54, 55, 56, 57, 58, 59, 60, 61, 62, 63, 64, 65, 66, 67, 68, 69, 70, 71, 72, 73, 74, 75, 80, 81, 82, 83, 84, 85, 86, 87, 88, 89, 90] (by decide +kernel) (by decide +kernel)
set_option maxRecDepth 20000 in
theorem gX3_askLower_X3_touch : GoodIn wsX3_askLower (wsV RX3 98 RX3 yX3_touch wsX3_touch) := goodIn_app (goodIn_of _ (by decide +kernel)) ggX3_askLower_X3_touch
set_option maxRecDepth 20000 in
theorem ggX3_askLower_X3_dries : GoodIn wsX3_askLower wsX3_dries := goodIn_r _ [79, 4, 11, 80, 81, 82, 83, 84, 85, 86, 87, 88, 89, 90] (by decide +kernel) (by decide +kernel)
set_option maxRecDepth 20000 in
theorem gX3_askLower_X3_dries : GoodIn wsX3_askLower (wsV RX3 101 RX3 yX3_dries wsX3_dries) := goodIn_app (goodIn_of _ (by decide +kernel)) ggX3_askLower_X3_dries
theorem dX3_askLower_0 : decode cX3_askLower 0 = .ok (.aload_n 0, 1) := by decide +kernel
theorem dX3_askLower_1 : decode cX3_askLower 1 = .ok (.iconst 1, 1) := by decide +kernel
theorem dX3_askLower_2 : decode cX3_askLower 2 = .ok (.iload_n 1, 1) := by decide +kernel
theorem dX3_askLower_3 : decode cX3_askLower 3 = .ok (.invokevirtual 98, 3) := by decide +kernel
theorem dX3_askLower_6 : decode cX3_askLower 6 = .ok (.istore_n 3, 1) := by decide +kernel
theorem dX3_askLower_7 : decode cX3_askLower 7 = .ok (.aload_n 0, 1) := by decide +kernel
theorem dX3_askLower_8 : decode cX3_askLower 8 = .ok (.iload_n 3, 1) := by decide +kernel
theorem dX3_askLower_9 : decode cX3_askLower 9 = .ok (.ifCond .ne 16, 3) := by decide +kernel
theorem dX3_askLower_12 : decode cX3_askLower 12 = .ok (.iload_n 2, 1) := by decide +kernel
theorem dX3_askLower_13 : decode cX3_askLower 13 = .ok (.ifCond .ne 12, 3) := by decide +kernel
theorem dX3_askLower_16 : decode cX3_askLower 16 = .ok (.aload_n 0, 1) := by decide +kernel
theorem dX3_askLower_17 : decode cX3_askLower 17 = .ok (.getfield 35, 3) := by decide +kernel
theorem dX3_askLower_20 : decode cX3_askLower 20 = .ok (.iconst 1, 1) := by decide +kernel
theorem dX3_askLower_21 : decode cX3_askLower 21 = .ok (.iadd, 1) := by decide +kernel
theorem dX3_askLower_22 : decode cX3_askLower 22 = .ok (.goto 7, 3) := by decide +kernel
theorem dX3_askLower_25 : decode cX3_askLower 25 = .ok (.aload_n 0, 1) := by decide +kernel
theorem dX3_askLower_26 : decode cX3_askLower 26 = .ok (.getfield 35, 3) := by decide +kernel
theorem dX3_askLower_29 : decode cX3_askLower 29 = .ok (.putfield 35, 3) := by decide +kernel
theorem dX3_askLower_32 : decode cX3_askLower 32 = .ok (.aload_n 0, 1) := by decide +kernel
theorem dX3_askLower_33 : decode cX3_askLower 33 = .ok (.aload_n 0, 1) := by decide +kernel
theorem dX3_askLower_34 : decode cX3_askLower 34 = .ok (.iconst 1, 1) := by decide +kernel
theorem dX3_askLower_35 : decode cX3_askLower 35 = .ok (.aload_n 0, 1) := by decide +kernel
theorem dX3_askLower_36 : decode cX3_askLower 36 = .ok (.getfield 65, 3) := by decide +kernel
theorem dX3_askLower_39 : decode cX3_askLower 39 = .ok (.invokevirtual 101, 3) := by decide +kernel
theorem dX3_askLower_42 : decode cX3_askLower 42 = .ok (.ifCond .eq 12, 3) := by decide +kernel
theorem dX3_askLower_45 : decode cX3_askLower 45 = .ok (.aload_n 0, 1) := by decide +kernel
theorem dX3_askLower_46 : decode cX3_askLower 46 = .ok (.getfield 39, 3) := by decide +kernel
theorem dX3_askLower_49 : decode cX3_askLower 49 = .ok (.iconst 1, 1) := by decide +kernel
theorem dX3_askLower_50 : decode cX3_askLower 50 = .ok (.iadd, 1) := by decide +kernel
theorem dX3_askLower_51 : decode cX3_askLower 51 = .ok (.goto 7, 3) := by decide +kernel
theorem dX3_askLower_54 : decode cX3_askLower 54 = .ok (.aload_n 0, 1) := by decide +kernel
theorem dX3_askLower_55 : decode cX3_askLower 55 = .ok (.getfield 39, 3) := by decide +kernel
theorem dX3_askLower_58 : decode cX3_askLower 58 = .ok (.putfield 39, 3) := by decide +kernel
theorem dX3_askLower_61 : decode cX3_askLower 61 = .ok (.aload_n 0, 1) := by decide +kernel
theorem dX3_askLower_62 : decode cX3_askLower 62 = .ok (.getfield 29, 3) := by decide +kernel
theorem dX3_askLower_65 : decode cX3_askLower 65 = .ok (.bipush 64, 2) := by decide +kernel
theorem dX3_askLower_67 : decode cX3_askLower 67 = .ok (.iload_n 1, 1) := by decide +kernel
theorem dX3_askLower_68 : decode cX3_askLower 68 = .ok (.iadd, 1) := by decide +kernel
theorem dX3_askLower_69 : decode cX3_askLower 69 = .ok (.aload_n 0, 1) := by decide +kernel
theorem dX3_askLower_70 : decode cX3_askLower 70 = .ok (.getfield 29, 3) := by decide +kernel
theorem dX3_askLower_73 : decode cX3_askLower 73 = .ok (.bipush 64, 2) := by decide +kernel
theorem dX3_askLower_75 : decode cX3_askLower 75 = .ok (.iload_n 1, 1) := by decide +kernel
theorem dX3_askLower_76 : decode cX3_askLower 76 = .ok (.iadd, 1) := by decide +kernel
theorem dX3_askLower_77 : decode cX3_askLower 77 = .ok (.baload, 1) := by decide +kernel
theorem dX3_askLower_78 : decode cX3_askLower 78 = .ok (.ifCond .ne 7, 3) := by decide +kernel
theorem dX3_askLower_81 : decode cX3_askLower 81 = .ok (.iload_n 2, 1) := by decide +kernel
theorem dX3_askLower_82 : decode cX3_askLower 82 = .ok (.ifCond .eq 7, 3) := by decide +kernel
theorem dX3_askLower_85 : decode cX3_askLower 85 = .ok (.iconst 1, 1) := by decide +kernel
theorem dX3_askLower_86 : decode cX3_askLower 86 = .ok (.goto 4, 3) := by decide +kernel
theorem dX3_askLower_89 : decode cX3_askLower 89 = .ok (.iconst 0, 1) := by decide +kernel
theorem dX3_askLower_90 : decode cX3_askLower 90 = .ok (.bastore, 1) := by decide +kernel
theorem dX3_askLower_91 : decode cX3_askLower 91 = .ok (.iload_n 3, 1) := by decide +kernel
theorem dX3_askLower_92 : decode cX3_askLower 92 = .ok (.ireturn, 1) := by decide +kernel
set_option maxRecDepth 20000 in
theorem ggX3_access_X3_isPage : GoodIn wsX3_access wsX3_isPage := goodIn_r _ [6] (by decide +kernel) (by decide +kernel)
set_option maxRecDepth 20000 in
theorem gX3_access_X3_isPage : GoodIn wsX3_access (va_wsS RX3 104 yX3_isPage wsX3_isPage) := goodIn_app (goodIn_of _ (by decide +kernel)) ggX3_access_X3_isPage
set_option maxRecDepth 20000 in
theorem ggX3_access_X3_touch : GoodIn wsX3_access wsX3_touch := goodIn_r _ [10, 1, 11, 12, 13, 14, 15, 5, 16, 17, 18, 19, 20, 21, 22, 23, 24, 25, 26, 27, 28, 29, 30, 31, 32, 33, 34, 35, 36, 37, 38, 39, 40, 41, 42, 43, 44, 45, 46, 47, 48, 49, 50, 51, 52, 53, 54, 55, 56, 57, 58, 59, 60, 61, 62, 63, 64, 65, 66, 67, 68, 69, 70, 71, 72, 73, 74, 75, 76, 87, 88, 89, 90, 91, 92, 93, 94, 95, 96, 97] (by decide +kernel) (by decide +kernel)
set_option maxRecDepth 20000 in
theorem gX3_access_X3_touch : GoodIn wsX3_access (wsV RX3 98 RX3 yX3_touch wsX3_touch) := goodIn_app (goodIn_of _ (by decide +kernel)) ggX3_access_X3_touch
set_option maxRecDepth 20000 in
theorem ggX3_access_X3_askLower : GoodIn wsX3_access wsX3_askLower := goodIn_r _ [80, 81, 1, 82, 2, 7, 8, 9, 5, 10, 11, 12, 13, 14, 15, 16, 17, 18, 19, 20, 21, 22, 23, 24, 25, 26, 27, 28, 29, 30, 31, 32, 33, 34, 35, 36, 37, 38, 39, 40, 41, 42, 43, 44, 45, 46, 47, 48, 49, 50, 51, 52, 53, 54, 55, 56, 57, 58, 59, 60, 61, 62, 63, 64, 65, 66, 67, 68, 69, 70, 71, 72, 73, 74, 75, 76, 83, 84, 85, 86, 87, 88, 89, 90, 91, 92, 93, 94, 95, 96, 97] (by decide +kernel) (by decide +kernel)
set_option maxRecDepth 20000 in
theorem gX3_access_X3_askLower : GoodIn wsX3_access (wsV RX3 108 RX3 yX3_askLower wsX3_askLower) := goodIn_app (goodIn_of _ (by decide +kernel)) ggX3_access_X3_askLower
set_option maxRecDepth 20000 in
theorem ggX3_access_X3_dries : GoodIn wsX3_access wsX3_dries := goodIn_r _ [86, 2, 12, 87, 88, 89, 90, 91, 92, 93, 94, 95, 96, 97] (by decide +kernel) (by decide +kernel)
set_option maxRecDepth 20000 in
theorem gX3_access_X3_dries : GoodIn wsX3_access (wsV RX3 101 RX3 yX3_dries wsX3_dries) := goodIn_app (goodIn_of _ (by decide +kernel)) ggX3_access_X3_dries
theorem dX3_access_0 : decode cX3_access 0 = .ok (.iload_n 1, 1) := by decide +kernel
theorem dX3_access_1 : decode cX3_access 1 = .ok (.invokestatic 104, 3) := by decide +kernel
theorem dX3_access_4 : decode cX3_access 4 = .ok (.ifCond .ne 5, 3) := by decide +kernel
theorem dX3_access_7 : decode cX3_access 7 = .ok (.iconst (-1), 1) := by decide +kernel
theorem dX3_access_8 : decode cX3_access 8 = .ok (.ireturn, 1) := by decide +kernel
theorem dX3_access_9 : decode cX3_access 9 = .ok (.iconst 0, 1) := by decide +kernel
theorem dX3_access_10 : decode cX3_access 10 = .ok (.istore_n 3, 1) := by decide +kernel
theorem dX3_access_11 : decode cX3_access 11 = .ok (.aload_n 0, 1) := by decide +kernel
theorem dX3_access_12 : decode cX3_access 12 = .ok (.iconst 0, 1) := by decide +kernel
theorem dX3_access_13 : decode cX3_access 13 = .ok (.iload_n 1, 1) := by decide +kernel
theorem dX3_access_14 : decode cX3_access 14 = .ok (.invokevirtual 98, 3) := by decide +kernel
theorem dX3_access_17 : decode cX3_access 17 = .ok (.istore 4, 2) := by decide +kernel
theorem dX3_access_19 : decode cX3_access 19 = .ok (.aload_n 0, 1) := by decide +kernel
theorem dX3_access_20 : decode cX3_access 20 = .ok (.getfield 65, 3) := by decide +kernel
theorem dX3_access_23 : decode cX3_access 23 = .ok (.istore 5, 2) := by decide +kernel
theorem dX3_access_25 : decode cX3_access 25 = .ok (.iload 4, 2) := by decide +kernel
theorem dX3_access_27 : decode cX3_access 27 = .ok (.ifCond .ne 18, 3) := by decide +kernel
theorem dX3_access_30 : decode cX3_access 30 = .ok (.aload_n 0, 1) := by decide +kernel
theorem dX3_access_31 : decode cX3_access 31 = .ok (.iload_n 1, 1) := by decide +kernel
theorem dX3_access_32 : decode cX3_access 32 = .ok (.iconst 0, 1) := by decide +kernel
theorem dX3_access_33 : decode cX3_access 33 = .ok (.invokevirtual 108, 3) := by decide +kernel
theorem dX3_access_36 : decode cX3_access 36 = .ok (.ifCond .eq 7, 3) := by decide +kernel
theorem dX3_access_39 : decode cX3_access 39 = .ok (.iconst 1, 1) := by decide +kernel
theorem dX3_access_40 : decode cX3_access 40 = .ok (.goto 4, 3) := by decide +kernel
theorem dX3_access_43 : decode cX3_access 43 = .ok (.iconst 2, 1) := by decide +kernel
theorem dX3_access_44 : decode cX3_access 44 = .ok (.istore_n 3, 1) := by decide +kernel
theorem dX3_access_45 : decode cX3_access 45 = .ok (.aload_n 0, 1) := by decide +kernel
theorem dX3_access_46 : decode cX3_access 46 = .ok (.iconst 0, 1) := by decide +kernel
theorem dX3_access_47 : decode cX3_access 47 = .ok (.iload 5, 2) := by decide +kernel
theorem dX3_access_49 : decode cX3_access 49 = .ok (.invokevirtual 101, 3) := by decide +kernel
theorem dX3_access_52 : decode cX3_access 52 = .ok (.ifCond .eq 11, 3) := by decide +kernel
theorem dX3_access_55 : decode cX3_access 55 = .ok (.aload_n 0, 1) := by decide +kernel
theorem dX3_access_56 : decode cX3_access 56 = .ok (.iload 5, 2) := by decide +kernel
theorem dX3_access_58 : decode cX3_access 58 = .ok (.iconst 1, 1) := by decide +kernel
theorem dX3_access_59 : decode cX3_access 59 = .ok (.invokevirtual 108, 3) := by decide +kernel
theorem dX3_access_62 : decode cX3_access 62 = .ok (.pop, 1) := by decide +kernel
theorem dX3_access_63 : decode cX3_access 63 = .ok (.aload_n 0, 1) := by decide +kernel
theorem dX3_access_64 : decode cX3_access 64 = .ok (.getfield 29, 3) := by decide +kernel
theorem dX3_access_67 : decode cX3_access 67 = .ok (.iload_n 1, 1) := by decide +kernel
theorem dX3_access_68 : decode cX3_access 68 = .ok (.aload_n 0, 1) := by decide +kernel
theorem dX3_access_69 : decode cX3_access 69 = .ok (.getfield 29, 3) := by decide +kernel
theorem dX3_access_72 : decode cX3_access 72 = .ok (.iload_n 1, 1) := by decide +kernel
theorem dX3_access_73 : decode cX3_access 73 = .ok (.baload, 1) := by decide +kernel
theorem dX3_access_74 : decode cX3_access 74 = .ok (.ifCond .ne 7, 3) := by decide +kernel
theorem dX3_access_77 : decode cX3_access 77 = .ok (.iload_n 2, 1) := by decide +kernel
theorem dX3_access_78 : decode cX3_access 78 = .ok (.ifCond .eq 7, 3) := by decide +kernel
theorem dX3_access_81 : decode cX3_access 81 = .ok (.iconst 1, 1) := by decide +kernel
theorem dX3_access_82 : decode cX3_access 82 = .ok (.goto 4, 3) := by decide +kernel
theorem dX3_access_85 : decode cX3_access 85 = .ok (.iconst 0, 1) := by decide +kernel
theorem dX3_access_86 : decode cX3_access 86 = .ok (.bastore, 1) := by decide +kernel
theorem dX3_access_87 : decode cX3_access 87 = .ok (.iload_n 3, 1) := by decide +kernel
theorem dX3_access_88 : decode cX3_access 88 = .ok (.ireturn, 1) := by decide +kernel
set_option maxRecDepth 20000 in
theorem ggX3_flush_X3_askLower : GoodIn wsX3_flush wsX3_askLower := goodIn_r _ [7, 8, 9, 1, 2, 10, 11, 12, 6, 13, 14, 15, 16, 17, 18, 19, 20, 21, 22, 23, 24, 25, 26, 27, 28, 29, 30, 31, 32, 33, 34, 35, 36, 37, 38, 39, 40, 41, 42, 43, 44, 45, 46, 47, 48, 49, 50, 51, 52, 53, 54, 55, 56, 57, 58, 59, 60, 61, 62, 63, 64, 65, 66, 67, 68, 69, 70, 71, 72, 73, 74, 75, 76, 77, 78, 79, 80, 81, 82, 83, 84, 85, 86, 87, 88, 89, 90, 91, 92, 93, 94] (by decide +kernel) (by decide +kernel)
set_option maxRecDepth 20000 in
theorem gX3_flush_X3_askLower : GoodIn wsX3_flush (wsV RX3 108 RX3 yX3_askLower wsX3_askLower) := goodIn_app (goodIn_of _ (by decide +kernel)) ggX3_flush_X3_askLower
theorem dX3_flush_0 : decode cX3_flush 0 = .ok (.aload_n 0, 1) := by decide +kernel
theorem dX3_flush_1 : decode cX3_flush 1 = .ok (.getfield 39, 3) := by decide +kernel
theorem dX3_flush_4 : decode cX3_flush 4 = .ok (.istore_n 1, 1) := by decide +kernel
theorem dX3_flush_5 : decode cX3_flush 5 = .ok (.iconst 0, 1) := by decide +kernel
theorem dX3_flush_6 : decode cX3_flush 6 = .ok (.istore_n 2, 1) := by decide +kernel
theorem dX3_flush_7 : decode cX3_flush 7 = .ok (.iload_n 2, 1) := by decide +kernel
theorem dX3_flush_8 : decode cX3_flush 8 = .ok (.bipush 64, 2) := by decide +kernel
theorem dX3_flush_10 : decode cX3_flush 10 = .ok (.if_icmp .ge 32, 3) := by decide +kernel
theorem dX3_flush_13 : decode cX3_flush 13 = .ok (.aload_n 0, 1) := by decide +kernel
theorem dX3_flush_14 : decode cX3_flush 14 = .ok (.getfield 29, 3) := by decide +kernel
theorem dX3_flush_17 : decode cX3_flush 17 = .ok (.iload_n 2, 1) := by decide +kernel
theorem dX3_flush_18 : decode cX3_flush 18 = .ok (.baload, 1) := by decide +kernel
theorem dX3_flush_19 : decode cX3_flush 19 = .ok (.ifCond .eq 17, 3) := by decide +kernel
theorem dX3_flush_22 : decode cX3_flush 22 = .ok (.aload_n 0, 1) := by decide +kernel
theorem dX3_flush_23 : decode cX3_flush 23 = .ok (.getfield 29, 3) := by decide +kernel
theorem dX3_flush_26 : decode cX3_flush 26 = .ok (.iload_n 2, 1) := by decide +kernel
theorem dX3_flush_27 : decode cX3_flush 27 = .ok (.iconst 0, 1) := by decide +kernel
theorem dX3_flush_28 : decode cX3_flush 28 = .ok (.bastore, 1) := by decide +kernel
theorem dX3_flush_29 : decode cX3_flush 29 = .ok (.aload_n 0, 1) := by decide +kernel
theorem dX3_flush_30 : decode cX3_flush 30 = .ok (.iload_n 2, 1) := by decide +kernel
theorem dX3_flush_31 : decode cX3_flush 31 = .ok (.iconst 1, 1) := by decide +kernel
theorem dX3_flush_32 : decode cX3_flush 32 = .ok (.invokevirtual 108, 3) := by decide +kernel
theorem dX3_flush_35 : decode cX3_flush 35 = .ok (.pop, 1) := by decide +kernel
theorem dX3_flush_36 : decode cX3_flush 36 = .ok (.iinc 2 1, 3) := by decide +kernel
theorem dX3_flush_39 : decode cX3_flush 39 = .ok (.goto (-32), 3) := by decide +kernel
theorem dX3_flush_42 : decode cX3_flush 42 = .ok (.iconst 0, 1) := by decide +kernel
theorem dX3_flush_43 : decode cX3_flush 43 = .ok (.istore_n 2, 1) := by decide +kernel
theorem dX3_flush_44 : decode cX3_flush 44 = .ok (.iload_n 2, 1) := by decide +kernel
theorem dX3_flush_45 : decode cX3_flush 45 = .ok (.bipush 64, 2) := by decide +kernel
theorem dX3_flush_47 : decode cX3_flush 47 = .ok (.if_icmp .ge 48, 3) := by decide +kernel
theorem dX3_flush_50 : decode cX3_flush 50 = .ok (.aload_n 0, 1) := by decide +kernel
theorem dX3_flush_51 : decode cX3_flush 51 = .ok (.aload_n 0, 1) := by decide +kernel
theorem dX3_flush_52 : decode cX3_flush 52 = .ok (.getfield 29, 3) := by decide +kernel
theorem dX3_flush_55 : decode cX3_flush 55 = .ok (.bipush 64, 2) := by decide +kernel
theorem dX3_flush_57 : decode cX3_flush 57 = .ok (.iload_n 2, 1) := by decide +kernel
theorem dX3_flush_58 : decode cX3_flush 58 = .ok (.iadd, 1) := by decide +kernel
theorem dX3_flush_59 : decode cX3_flush 59 = .ok (.baload, 1) := by decide +kernel
theorem dX3_flush_60 : decode cX3_flush 60 = .ok (.ifCond .eq 12, 3) := by decide +kernel
theorem dX3_flush_63 : decode cX3_flush 63 = .ok (.aload_n 0, 1) := by decide +kernel
theorem dX3_flush_64 : decode cX3_flush 64 = .ok (.getfield 39, 3) := by decide +kernel
theorem dX3_flush_67 : decode cX3_flush 67 = .ok (.iconst 1, 1) := by decide +kernel
theorem dX3_flush_68 : decode cX3_flush 68 = .ok (.iadd, 1) := by decide +kernel
theorem dX3_flush_69 : decode cX3_flush 69 = .ok (.goto 7, 3) := by decide +kernel
theorem dX3_flush_72 : decode cX3_flush 72 = .ok (.aload_n 0, 1) := by decide +kernel
theorem dX3_flush_73 : decode cX3_flush 73 = .ok (.getfield 39, 3) := by decide +kernel
theorem dX3_flush_76 : decode cX3_flush 76 = .ok (.putfield 39, 3) := by decide +kernel
theorem dX3_flush_79 : decode cX3_flush 79 = .ok (.aload_n 0, 1) := by decide +kernel
theorem dX3_flush_80 : decode cX3_flush 80 = .ok (.getfield 29, 3) := by decide +kernel
theorem dX3_flush_83 : decode cX3_flush 83 = .ok (.bipush 64, 2) := by decide +kernel
theorem dX3_flush_85 : decode cX3_flush 85 = .ok (.iload_n 2, 1) := by decide +kernel
theorem dX3_flush_86 : decode cX3_flush 86 = .ok (.iadd, 1) := by decide +kernel
theorem dX3_flush_87 : decode cX3_flush 87 = .ok (.iconst 0, 1) := by decide +kernel
theorem dX3_flush_88 : decode cX3_flush 88 = .ok (.bastore, 1) := by decide +kernel
theorem dX3_flush_89 : decode cX3_flush 89 = .ok (.iinc 2 1, 3) := by decide +kernel
theorem dX3_flush_92 : decode cX3_flush 92 = .ok (.goto (-48), 3) := by decide +kernel
theorem dX3_flush_95 : decode cX3_flush 95 = .ok (.aload_n 0, 1) := by decide +kernel
theorem dX3_flush_96 : decode cX3_flush 96 = .ok (.getfield 39, 3) := by decide +kernel
theorem dX3_flush_99 : decode cX3_flush 99 = .ok (.iload_n 1, 1) := by decide +kernel
theorem dX3_flush_100 : decode cX3_flush 100 = .ok (.isub, 1) := by decide +kernel
theorem dX3_flush_101 : decode cX3_flush 101 = .ok (.ireturn, 1) := by decide +kernel
set_option maxRecDepth 20000 in
theorem ggX3_resident_X3_isTier : GoodIn wsX3_resident wsX3_isTier := goodIn_r _ [5] (by decide +kernel) (by decide +kernel)
set_option maxRecDepth 20000 in
theorem gX3_resident_X3_isTier : GoodIn wsX3_resident (va_wsS RX3 112 yX3_isTier wsX3_isTier) := goodIn_app (goodIn_of _ (by decide +kernel)) ggX3_resident_X3_isTier
set_option maxRecDepth 20000 in
theorem ggX3_resident_X3_isPage : GoodIn wsX3_resident wsX3_isPage := goodIn_r _ [8] (by decide +kernel) (by decide +kernel)
set_option maxRecDepth 20000 in
theorem gX3_resident_X3_isPage : GoodIn wsX3_resident (va_wsS RX3 104 yX3_isPage wsX3_isPage) := goodIn_app (goodIn_of _ (by decide +kernel)) ggX3_resident_X3_isPage
set_option maxRecDepth 20000 in
theorem ggX3_resident_X3_isIn : GoodIn wsX3_resident wsX3_isIn := goodIn_r _ [12, 13, 14, 15, 4, 16, 17, 18, 19, 20, 21, 22, 23, 24, 25, 26, 27, 28, 29] (by decide +kernel) (by decide +kernel)
set_option maxRecDepth 20000 in
theorem gX3_resident_X3_isIn : GoodIn wsX3_resident (wsV RX3 53 RX3 yX3_isIn wsX3_isIn) := goodIn_app (goodIn_of _ (by decide +kernel)) ggX3_resident_X3_isIn
theorem dX3_resident_0 : decode cX3_resident 0 = .ok (.iload_n 1, 1) := by decide +kernel
theorem dX3_resident_1 : decode cX3_resident 1 = .ok (.invokestatic 112, 3) := by decide +kernel
theorem dX3_resident_4 : decode cX3_resident 4 = .ok (.ifCond .eq 10, 3) := by decide +kernel
theorem dX3_resident_7 : decode cX3_resident 7 = .ok (.iload_n 2, 1) := by decide +kernel
theorem dX3_resident_8 : decode cX3_resident 8 = .ok (.invokestatic 104, 3) := by decide +kernel
theorem dX3_resident_11 : decode cX3_resident 11 = .ok (.ifCond .ne 5, 3) := by decide +kernel
theorem dX3_resident_14 : decode cX3_resident 14 = .ok (.iconst 0, 1) := by decide +kernel
theorem dX3_resident_15 : decode cX3_resident 15 = .ok (.ireturn, 1) := by decide +kernel
theorem dX3_resident_16 : decode cX3_resident 16 = .ok (.iconst 4, 1) := by decide +kernel
theorem dX3_resident_17 : decode cX3_resident 17 = .ok (.iload_n 1, 1) := by decide +kernel
theorem dX3_resident_18 : decode cX3_resident 18 = .ok (.imul, 1) := by decide +kernel
theorem dX3_resident_19 : decode cX3_resident 19 = .ok (.istore_n 3, 1) := by decide +kernel
theorem dX3_resident_20 : decode cX3_resident 20 = .ok (.aload_n 0, 1) := by decide +kernel
theorem dX3_resident_21 : decode cX3_resident 21 = .ok (.getfield 7, 3) := by decide +kernel
theorem dX3_resident_24 : decode cX3_resident 24 = .ok (.iload_n 1, 1) := by decide +kernel
theorem dX3_resident_25 : decode cX3_resident 25 = .ok (.iaload, 1) := by decide +kernel
theorem dX3_resident_26 : decode cX3_resident 26 = .ok (.iconst 2, 1) := by decide +kernel
theorem dX3_resident_27 : decode cX3_resident 27 = .ok (.if_icmp .ne 9, 3) := by decide +kernel
theorem dX3_resident_30 : decode cX3_resident 30 = .ok (.iload_n 3, 1) := by decide +kernel
theorem dX3_resident_31 : decode cX3_resident 31 = .ok (.iconst 2, 1) := by decide +kernel
theorem dX3_resident_32 : decode cX3_resident 32 = .ok (.iadd, 1) := by decide +kernel
theorem dX3_resident_33 : decode cX3_resident 33 = .ok (.goto 20, 3) := by decide +kernel
theorem dX3_resident_36 : decode cX3_resident 36 = .ok (.aload_n 0, 1) := by decide +kernel
theorem dX3_resident_37 : decode cX3_resident 37 = .ok (.getfield 7, 3) := by decide +kernel
theorem dX3_resident_40 : decode cX3_resident 40 = .ok (.iload_n 1, 1) := by decide +kernel
theorem dX3_resident_41 : decode cX3_resident 41 = .ok (.iaload, 1) := by decide +kernel
theorem dX3_resident_42 : decode cX3_resident 42 = .ok (.iconst 3, 1) := by decide +kernel
theorem dX3_resident_43 : decode cX3_resident 43 = .ok (.if_icmp .ne 9, 3) := by decide +kernel
theorem dX3_resident_46 : decode cX3_resident 46 = .ok (.iload_n 3, 1) := by decide +kernel
theorem dX3_resident_47 : decode cX3_resident 47 = .ok (.iconst 1, 1) := by decide +kernel
theorem dX3_resident_48 : decode cX3_resident 48 = .ok (.iadd, 1) := by decide +kernel
theorem dX3_resident_49 : decode cX3_resident 49 = .ok (.goto 4, 3) := by decide +kernel
theorem dX3_resident_52 : decode cX3_resident 52 = .ok (.iload_n 3, 1) := by decide +kernel
theorem dX3_resident_53 : decode cX3_resident 53 = .ok (.istore 4, 2) := by decide +kernel
theorem dX3_resident_55 : decode cX3_resident 55 = .ok (.aload_n 0, 1) := by decide +kernel
theorem dX3_resident_56 : decode cX3_resident 56 = .ok (.iload_n 3, 1) := by decide +kernel
theorem dX3_resident_57 : decode cX3_resident 57 = .ok (.iload_n 2, 1) := by decide +kernel
theorem dX3_resident_58 : decode cX3_resident 58 = .ok (.invokevirtual 53, 3) := by decide +kernel
theorem dX3_resident_61 : decode cX3_resident 61 = .ok (.ifCond .ne 13, 3) := by decide +kernel
theorem dX3_resident_64 : decode cX3_resident 64 = .ok (.aload_n 0, 1) := by decide +kernel
theorem dX3_resident_65 : decode cX3_resident 65 = .ok (.iload 4, 2) := by decide +kernel
theorem dX3_resident_67 : decode cX3_resident 67 = .ok (.iload_n 2, 1) := by decide +kernel
theorem dX3_resident_68 : decode cX3_resident 68 = .ok (.invokevirtual 53, 3) := by decide +kernel
theorem dX3_resident_71 : decode cX3_resident 71 = .ok (.ifCond .eq 7, 3) := by decide +kernel
theorem dX3_resident_74 : decode cX3_resident 74 = .ok (.iconst 1, 1) := by decide +kernel
theorem dX3_resident_75 : decode cX3_resident 75 = .ok (.goto 4, 3) := by decide +kernel
theorem dX3_resident_78 : decode cX3_resident 78 = .ok (.iconst 0, 1) := by decide +kernel
theorem dX3_resident_79 : decode cX3_resident 79 = .ok (.ireturn, 1) := by decide +kernel
set_option maxRecDepth 20000 in
theorem ggX3_dirty_X3_isTier : GoodIn wsX3_dirty wsX3_isTier := goodIn_r _ [5] (by decide +kernel) (by decide +kernel)
set_option maxRecDepth 20000 in
theorem gX3_dirty_X3_isTier : GoodIn wsX3_dirty (va_wsS RX3 112 yX3_isTier wsX3_isTier) := goodIn_app (goodIn_of _ (by decide +kernel)) ggX3_dirty_X3_isTier
set_option maxRecDepth 20000 in
theorem ggX3_dirty_X3_isPage : GoodIn wsX3_dirty wsX3_isPage := goodIn_r _ [8] (by decide +kernel) (by decide +kernel)
set_option maxRecDepth 20000 in
theorem gX3_dirty_X3_isPage : GoodIn wsX3_dirty (va_wsS RX3 104 yX3_isPage wsX3_isPage) := goodIn_app (goodIn_of _ (by decide +kernel)) ggX3_dirty_X3_isPage
theorem dX3_dirty_0 : decode cX3_dirty 0 = .ok (.iload_n 1, 1) := by decide +kernel
theorem dX3_dirty_1 : decode cX3_dirty 1 = .ok (.invokestatic 112, 3) := by decide +kernel
theorem dX3_dirty_4 : decode cX3_dirty 4 = .ok (.ifCond .eq 28, 3) := by decide +kernel
theorem dX3_dirty_7 : decode cX3_dirty 7 = .ok (.iload_n 2, 1) := by decide +kernel
theorem dX3_dirty_8 : decode cX3_dirty 8 = .ok (.invokestatic 104, 3) := by decide +kernel
theorem dX3_dirty_11 : decode cX3_dirty 11 = .ok (.ifCond .eq 21, 3) := by decide +kernel
theorem dX3_dirty_14 : decode cX3_dirty 14 = .ok (.aload_n 0, 1) := by decide +kernel
theorem dX3_dirty_15 : decode cX3_dirty 15 = .ok (.getfield 29, 3) := by decide +kernel
theorem dX3_dirty_18 : decode cX3_dirty 18 = .ok (.bipush 64, 2) := by decide +kernel
theorem dX3_dirty_20 : decode cX3_dirty 20 = .ok (.iload_n 1, 1) := by decide +kernel
theorem dX3_dirty_21 : decode cX3_dirty 21 = .ok (.imul, 1) := by decide +kernel
theorem dX3_dirty_22 : decode cX3_dirty 22 = .ok (.iload_n 2, 1) := by decide +kernel
theorem dX3_dirty_23 : decode cX3_dirty 23 = .ok (.iadd, 1) := by decide +kernel
theorem dX3_dirty_24 : decode cX3_dirty 24 = .ok (.baload, 1) := by decide +kernel
theorem dX3_dirty_25 : decode cX3_dirty 25 = .ok (.ifCond .eq 7, 3) := by decide +kernel
theorem dX3_dirty_28 : decode cX3_dirty 28 = .ok (.iconst 1, 1) := by decide +kernel
theorem dX3_dirty_29 : decode cX3_dirty 29 = .ok (.goto 4, 3) := by decide +kernel
theorem dX3_dirty_32 : decode cX3_dirty 32 = .ok (.iconst 0, 1) := by decide +kernel
theorem dX3_dirty_33 : decode cX3_dirty 33 = .ok (.ireturn, 1) := by decide +kernel
set_option maxRecDepth 20000 in
theorem ggX3_marked_X3_isTier : GoodIn wsX3_marked wsX3_isTier := goodIn_r _ [6] (by decide +kernel) (by decide +kernel)
set_option maxRecDepth 20000 in
theorem gX3_marked_X3_isTier : GoodIn wsX3_marked (va_wsS RX3 112 yX3_isTier wsX3_isTier) := goodIn_app (goodIn_of _ (by decide +kernel)) ggX3_marked_X3_isTier
set_option maxRecDepth 20000 in
theorem ggX3_marked_X3_isPage : GoodIn wsX3_marked wsX3_isPage := goodIn_r _ [9] (by decide +kernel) (by decide +kernel)
set_option maxRecDepth 20000 in
theorem gX3_marked_X3_isPage : GoodIn wsX3_marked (va_wsS RX3 104 yX3_isPage wsX3_isPage) := goodIn_app (goodIn_of _ (by decide +kernel)) ggX3_marked_X3_isPage
theorem dX3_marked_0 : decode cX3_marked 0 = .ok (.iload_n 1, 1) := by decide +kernel
theorem dX3_marked_1 : decode cX3_marked 1 = .ok (.invokestatic 112, 3) := by decide +kernel
theorem dX3_marked_4 : decode cX3_marked 4 = .ok (.ifCond .eq 38, 3) := by decide +kernel
theorem dX3_marked_7 : decode cX3_marked 7 = .ok (.iload_n 2, 1) := by decide +kernel
theorem dX3_marked_8 : decode cX3_marked 8 = .ok (.invokestatic 104, 3) := by decide +kernel
theorem dX3_marked_11 : decode cX3_marked 11 = .ok (.ifCond .eq 31, 3) := by decide +kernel
theorem dX3_marked_14 : decode cX3_marked 14 = .ok (.aload_n 0, 1) := by decide +kernel
theorem dX3_marked_15 : decode cX3_marked 15 = .ok (.getfield 7, 3) := by decide +kernel
theorem dX3_marked_18 : decode cX3_marked 18 = .ok (.iload_n 1, 1) := by decide +kernel
theorem dX3_marked_19 : decode cX3_marked 19 = .ok (.iaload, 1) := by decide +kernel
theorem dX3_marked_20 : decode cX3_marked 20 = .ok (.iconst 1, 1) := by decide +kernel
theorem dX3_marked_21 : decode cX3_marked 21 = .ok (.if_icmp .ne 21, 3) := by decide +kernel
theorem dX3_marked_24 : decode cX3_marked 24 = .ok (.aload_n 0, 1) := by decide +kernel
theorem dX3_marked_25 : decode cX3_marked 25 = .ok (.getfield 25, 3) := by decide +kernel
theorem dX3_marked_28 : decode cX3_marked 28 = .ok (.bipush 64, 2) := by decide +kernel
theorem dX3_marked_30 : decode cX3_marked 30 = .ok (.iload_n 1, 1) := by decide +kernel
theorem dX3_marked_31 : decode cX3_marked 31 = .ok (.imul, 1) := by decide +kernel
theorem dX3_marked_32 : decode cX3_marked 32 = .ok (.iload_n 2, 1) := by decide +kernel
theorem dX3_marked_33 : decode cX3_marked 33 = .ok (.iadd, 1) := by decide +kernel
theorem dX3_marked_34 : decode cX3_marked 34 = .ok (.baload, 1) := by decide +kernel
theorem dX3_marked_35 : decode cX3_marked 35 = .ok (.ifCond .eq 7, 3) := by decide +kernel
theorem dX3_marked_38 : decode cX3_marked 38 = .ok (.iconst 1, 1) := by decide +kernel
theorem dX3_marked_39 : decode cX3_marked 39 = .ok (.goto 4, 3) := by decide +kernel
theorem dX3_marked_42 : decode cX3_marked 42 = .ok (.iconst 0, 1) := by decide +kernel
theorem dX3_marked_43 : decode cX3_marked 43 = .ok (.ireturn, 1) := by decide +kernel
set_option maxRecDepth 20000 in
theorem ggX3_row_X3_isTier : GoodIn wsX3_row wsX3_isTier := goodIn_r _ [6] (by decide +kernel) (by decide +kernel)
set_option maxRecDepth 20000 in
theorem gX3_row_X3_isTier : GoodIn wsX3_row (va_wsS RX3 112 yX3_isTier wsX3_isTier) := goodIn_app (goodIn_of _ (by decide +kernel)) ggX3_row_X3_isTier
theorem dX3_row_0 : decode cX3_row 0 = .ok (.iload_n 1, 1) := by decide +kernel
theorem dX3_row_1 : decode cX3_row 1 = .ok (.invokestatic 112, 3) := by decide +kernel
theorem dX3_row_4 : decode cX3_row 4 = .ok (.ifCond .eq 30, 3) := by decide +kernel
theorem dX3_row_7 : decode cX3_row 7 = .ok (.iload_n 2, 1) := by decide +kernel
theorem dX3_row_8 : decode cX3_row 8 = .ok (.ifCond .lt 26, 3) := by decide +kernel
theorem dX3_row_11 : decode cX3_row 11 = .ok (.iload_n 2, 1) := by decide +kernel
theorem dX3_row_12 : decode cX3_row 12 = .ok (.iconst 3, 1) := by decide +kernel
theorem dX3_row_13 : decode cX3_row 13 = .ok (.if_icmp .gt 21, 3) := by decide +kernel
theorem dX3_row_16 : decode cX3_row 16 = .ok (.iload_n 3, 1) := by decide +kernel
theorem dX3_row_17 : decode cX3_row 17 = .ok (.ifCond .lt 17, 3) := by decide +kernel
theorem dX3_row_20 : decode cX3_row 20 = .ok (.iload_n 3, 1) := by decide +kernel
theorem dX3_row_21 : decode cX3_row 21 = .ok (.aload_n 0, 1) := by decide +kernel
theorem dX3_row_22 : decode cX3_row 22 = .ok (.getfield 19, 3) := by decide +kernel
theorem dX3_row_25 : decode cX3_row 25 = .ok (.iconst 4, 1) := by decide +kernel
theorem dX3_row_26 : decode cX3_row 26 = .ok (.iload_n 1, 1) := by decide +kernel
theorem dX3_row_27 : decode cX3_row 27 = .ok (.imul, 1) := by decide +kernel
theorem dX3_row_28 : decode cX3_row 28 = .ok (.iload_n 2, 1) := by decide +kernel
theorem dX3_row_29 : decode cX3_row 29 = .ok (.iadd, 1) := by decide +kernel
theorem dX3_row_30 : decode cX3_row 30 = .ok (.iaload, 1) := by decide +kernel
theorem dX3_row_31 : decode cX3_row 31 = .ok (.if_icmp .lt 5, 3) := by decide +kernel
theorem dX3_row_34 : decode cX3_row 34 = .ok (.iconst (-1), 1) := by decide +kernel
theorem dX3_row_35 : decode cX3_row 35 = .ok (.ireturn, 1) := by decide +kernel
theorem dX3_row_36 : decode cX3_row 36 = .ok (.aload_n 0, 1) := by decide +kernel
theorem dX3_row_37 : decode cX3_row 37 = .ok (.getfield 22, 3) := by decide +kernel
theorem dX3_row_40 : decode cX3_row 40 = .ok (.bipush 20, 2) := by decide +kernel
theorem dX3_row_42 : decode cX3_row 42 = .ok (.iconst 4, 1) := by decide +kernel
theorem dX3_row_43 : decode cX3_row 43 = .ok (.iload_n 1, 1) := by decide +kernel
theorem dX3_row_44 : decode cX3_row 44 = .ok (.imul, 1) := by decide +kernel
theorem dX3_row_45 : decode cX3_row 45 = .ok (.iload_n 2, 1) := by decide +kernel
theorem dX3_row_46 : decode cX3_row 46 = .ok (.iadd, 1) := by decide +kernel
theorem dX3_row_47 : decode cX3_row 47 = .ok (.imul, 1) := by decide +kernel
theorem dX3_row_48 : decode cX3_row 48 = .ok (.iload_n 3, 1) := by decide +kernel
theorem dX3_row_49 : decode cX3_row 49 = .ok (.iadd, 1) := by decide +kernel
theorem dX3_row_50 : decode cX3_row 50 = .ok (.iaload, 1) := by decide +kernel
theorem dX3_row_51 : decode cX3_row 51 = .ok (.ireturn, 1) := by decide +kernel
set_option maxRecDepth 20000 in
theorem ggX3_goal_X3_isTier : GoodIn wsX3_goal wsX3_isTier := goodIn_r _ [6] (by decide +kernel) (by decide +kernel)
set_option maxRecDepth 20000 in
theorem gX3_goal_X3_isTier : GoodIn wsX3_goal (va_wsS RX3 112 yX3_isTier wsX3_isTier) := goodIn_app (goodIn_of _ (by decide +kernel)) ggX3_goal_X3_isTier
theorem dX3_goal_0 : decode cX3_goal 0 = .ok (.iload_n 1, 1) := by decide +kernel
theorem dX3_goal_1 : decode cX3_goal 1 = .ok (.invokestatic 112, 3) := by decide +kernel
theorem dX3_goal_4 : decode cX3_goal 4 = .ok (.ifCond .eq 22, 3) := by decide +kernel
theorem dX3_goal_7 : decode cX3_goal 7 = .ok (.aload_n 0, 1) := by decide +kernel
theorem dX3_goal_8 : decode cX3_goal 8 = .ok (.getfield 7, 3) := by decide +kernel
theorem dX3_goal_11 : decode cX3_goal 11 = .ok (.iload_n 1, 1) := by decide +kernel
theorem dX3_goal_12 : decode cX3_goal 12 = .ok (.iaload, 1) := by decide +kernel
theorem dX3_goal_13 : decode cX3_goal 13 = .ok (.iconst 3, 1) := by decide +kernel
theorem dX3_goal_14 : decode cX3_goal 14 = .ok (.if_icmp .ne 12, 3) := by decide +kernel
theorem dX3_goal_17 : decode cX3_goal 17 = .ok (.aload_n 0, 1) := by decide +kernel
theorem dX3_goal_18 : decode cX3_goal 18 = .ok (.getfield 16, 3) := by decide +kernel
theorem dX3_goal_21 : decode cX3_goal 21 = .ok (.iload_n 1, 1) := by decide +kernel
theorem dX3_goal_22 : decode cX3_goal 22 = .ok (.iaload, 1) := by decide +kernel
theorem dX3_goal_23 : decode cX3_goal 23 = .ok (.goto 4, 3) := by decide +kernel
theorem dX3_goal_26 : decode cX3_goal 26 = .ok (.iconst (-1), 1) := by decide +kernel
theorem dX3_goal_27 : decode cX3_goal 27 = .ok (.ireturn, 1) := by decide +kernel
set_option maxRecDepth 20000 in
theorem ggX3_count_X3_isTier : GoodIn wsX3_count wsX3_isTier := goodIn_r _ [5] (by decide +kernel) (by decide +kernel)
set_option maxRecDepth 20000 in
theorem gX3_count_X3_isTier : GoodIn wsX3_count (va_wsS RX3 112 yX3_isTier wsX3_isTier) := goodIn_app (goodIn_of _ (by decide +kernel)) ggX3_count_X3_isTier
theorem dX3_count_0 : decode cX3_count 0 = .ok (.iload_n 1, 1) := by decide +kernel
theorem dX3_count_1 : decode cX3_count 1 = .ok (.invokestatic 112, 3) := by decide +kernel
theorem dX3_count_4 : decode cX3_count 4 = .ok (.ifCond .eq 25, 3) := by decide +kernel
theorem dX3_count_7 : decode cX3_count 7 = .ok (.iload_n 2, 1) := by decide +kernel
theorem dX3_count_8 : decode cX3_count 8 = .ok (.ifCond .lt 21, 3) := by decide +kernel
theorem dX3_count_11 : decode cX3_count 11 = .ok (.iload_n 2, 1) := by decide +kernel
theorem dX3_count_12 : decode cX3_count 12 = .ok (.iconst 3, 1) := by decide +kernel
theorem dX3_count_13 : decode cX3_count 13 = .ok (.if_icmp .ge 16, 3) := by decide +kernel
theorem dX3_count_16 : decode cX3_count 16 = .ok (.aload_n 0, 1) := by decide +kernel
theorem dX3_count_17 : decode cX3_count 17 = .ok (.getfield 32, 3) := by decide +kernel
theorem dX3_count_20 : decode cX3_count 20 = .ok (.iconst 3, 1) := by decide +kernel
theorem dX3_count_21 : decode cX3_count 21 = .ok (.iload_n 1, 1) := by decide +kernel
theorem dX3_count_22 : decode cX3_count 22 = .ok (.imul, 1) := by decide +kernel
theorem dX3_count_23 : decode cX3_count 23 = .ok (.iload_n 2, 1) := by decide +kernel
theorem dX3_count_24 : decode cX3_count 24 = .ok (.iadd, 1) := by decide +kernel
theorem dX3_count_25 : decode cX3_count 25 = .ok (.iaload, 1) := by decide +kernel
theorem dX3_count_26 : decode cX3_count 26 = .ok (.goto 4, 3) := by decide +kernel
theorem dX3_count_29 : decode cX3_count 29 = .ok (.iconst (-1), 1) := by decide +kernel
theorem dX3_count_30 : decode cX3_count 30 = .ok (.ireturn, 1) := by decide +kernel
theorem dX3_reads_0 : decode cX3_reads 0 = .ok (.aload_n 0, 1) := by decide +kernel
theorem dX3_reads_1 : decode cX3_reads 1 = .ok (.getfield 35, 3) := by decide +kernel
theorem dX3_reads_4 : decode cX3_reads 4 = .ok (.ireturn, 1) := by decide +kernel
theorem dX3_writes_0 : decode cX3_writes 0 = .ok (.aload_n 0, 1) := by decide +kernel
theorem dX3_writes_1 : decode cX3_writes 1 = .ok (.getfield 39, 3) := by decide +kernel
theorem dX3_writes_4 : decode cX3_writes 4 = .ok (.ireturn, 1) := by decide +kernel
theorem dJ9_max_7cf53_0 : decode cJ9_max_7cf53 0 = .ok (.iload_n 0, 1) := by decide +kernel
theorem dJ9_max_7cf53_1 : decode cJ9_max_7cf53 1 = .ok (.iload_n 1, 1) := by decide +kernel
theorem dJ9_max_7cf53_2 : decode cJ9_max_7cf53 2 = .ok (.if_icmp .lt 7, 3) := by decide +kernel
theorem dJ9_max_7cf53_5 : decode cJ9_max_7cf53 5 = .ok (.iload_n 0, 1) := by decide +kernel
theorem dJ9_max_7cf53_6 : decode cJ9_max_7cf53 6 = .ok (.goto 4, 3) := by decide +kernel
theorem dJ9_max_7cf53_9 : decode cJ9_max_7cf53 9 = .ok (.iload_n 1, 1) := by decide +kernel
theorem dJ9_max_7cf53_10 : decode cJ9_max_7cf53 10 = .ok (.ireturn, 1) := by decide +kernel
theorem dJ9_min_7cf53_0 : decode cJ9_min_7cf53 0 = .ok (.iload_n 0, 1) := by decide +kernel
theorem dJ9_min_7cf53_1 : decode cJ9_min_7cf53 1 = .ok (.iload_n 1, 1) := by decide +kernel
theorem dJ9_min_7cf53_2 : decode cJ9_min_7cf53 2 = .ok (.if_icmp .gt 7, 3) := by decide +kernel
theorem dJ9_min_7cf53_5 : decode cJ9_min_7cf53 5 = .ok (.iload_n 0, 1) := by decide +kernel
theorem dJ9_min_7cf53_6 : decode cJ9_min_7cf53 6 = .ok (.goto 4, 3) := by decide +kernel
theorem dJ9_min_7cf53_9 : decode cJ9_min_7cf53 9 = .ok (.iload_n 1, 1) := by decide +kernel
theorem dJ9_min_7cf53_10 : decode cJ9_min_7cf53 10 = .ok (.ireturn, 1) := by decide +kernel
set_option maxRecDepth 20000 in
theorem ggL_law_X2_init : GoodIn wsL_law wsX2_init := goodIn_r _ [8, 9, 10, 11, 12, 13, 14, 15, 16, 17, 18, 19, 20, 21, 22, 23, 24, 25, 26, 27, 28, 29, 30, 31, 402, 403, 404, 405, 406, 407, 408, 409, 410, 387, 388, 389, 390, 411, 412] (by decide +kernel) (by decide +kernel)
set_option maxRecDepth 20000 in
theorem gL_law_X2_init : GoodIn wsL_law (wsX2_init) := ggL_law_X2_init
set_option maxRecDepth 20000 in
theorem ggL_law_X3_init : GoodIn wsL_law wsX3_init := goodIn_r _ [34, 35, 10, 11, 30, 36, 37, 38, 39, 40, 41, 42, 43, 44, 391, 392, 393, 394, 395, 396, 397, 398, 399, 400, 401] (by decide +kernel) (by decide +kernel)
set_option maxRecDepth 20000 in
theorem gL_law_X3_init : GoodIn wsL_law (wsX3_init) := ggL_law_X3_init
set_option maxRecDepth 20000 in
theorem ggL_law_X2_begin : GoodIn wsL_law wsX2_begin := goodIn_r _ [48, 15, 16, 49, 50, 51, 52, 2, 53, 54, 55, 56, 57, 58, 59, 14, 60, 22, 25, 26, 61, 62, 63, 64, 65, 66, 67, 68, 69, 24, 70, 71, 387, 388, 389, 390, 402, 403, 404, 405, 406, 407, 408, 409, 410, 411, 412] (by decide +kernel) (by decide +kernel)
set_option maxRecDepth 20000 in
theorem gL_law_X2_begin : GoodIn wsL_law (wsV RL 13 RX2 yX2_begin wsX2_begin) := goodIn_app (goodIn_of _ (by decide +kernel)) ggL_law_X2_begin
set_option maxRecDepth 20000 in
theorem ggL_law_X3_begin : GoodIn wsL_law wsX3_begin := goodIn_r _ [75, 36, 37, 39, 42, 43, 44, 38, 76, 77, 391, 392, 393, 394, 395, 396, 397, 398, 399, 400, 401] (by decide +kernel) (by decide +kernel)
set_option maxRecDepth 20000 in
theorem gL_law_X3_begin : GoodIn wsL_law (wsV RL 17 RX3 yX3_begin wsX3_begin) := goodIn_app (goodIn_of _ (by decide +kernel)) ggL_law_X3_begin
set_option maxRecDepth 20000 in
theorem ggL_law_X2_access : GoodIn wsL_law wsX2_access := goodIn_r _ [81, 15, 82, 83, 2, 84, 85, 86, 87, 14, 88, 25, 22, 89, 90, 91, 24, 92, 93, 94, 95, 96, 71, 31, 97, 98, 99, 100, 64, 65, 101, 102, 103, 104, 105, 26, 106, 107, 108, 109, 110, 111, 112, 113, 114, 115, 116, 117, 118, 119, 120, 121, 122, 123, 124, 125, 126, 127, 128, 129, 63, 130, 131, 132, 133, 134, 135, 136, 137, 138, 139, 140, 141, 142, 143, 144, 145, 146, 147, 148, 149, 150, 151, 152, 153, 154, 155, 156, 157, 158, 159, 160, 161, 162, 163, 164, 165, 166, 167, 168, 169, 170, 171, 172, 173, 174, 175, 61, 176, 177, 178, 179, 180, 181, 182, 183, 184, 185, 186, 187, 188, 189, 190, 191, 192, 193, 194, 195, 196, 197, 16, 49, 50, 198, 199, 200, 201, 66, 202, 203, 204, 205, 62, 206, 207, 208, 209, 210, 211, 212, 213, 387, 388, 389, 390, 402, 403, 404, 405, 406, 407, 408, 409, 410, 411, 412] (by decide +kernel) (by decide +kernel)
set_option maxRecDepth 20000 in
theorem gL_law_X2_access : GoodIn wsL_law (wsV RL 18 RX2 yX2_access wsX2_access) := goodIn_app (goodIn_of _ (by decide +kernel)) ggL_law_X2_access
set_option maxRecDepth 20000 in
theorem ggL_law_X3_access : GoodIn wsL_law wsX3_access := goodIn_r _ [217, 218, 43, 219, 220, 5, 221, 222, 223, 224, 225, 36, 44, 226, 227, 228, 229, 39, 37, 230, 231, 232, 233, 234, 235, 236, 237, 40, 238, 239, 240, 241, 242, 243, 244, 245, 246, 247, 248, 249, 250, 251, 252, 253, 254, 255, 256, 257, 42, 258, 259, 260, 261, 262, 263, 264, 265, 266, 267, 268, 269, 270, 271, 272, 273, 274, 275, 276, 277, 38, 278, 279, 280, 281, 282, 283, 284, 285, 286, 287, 288, 76, 77, 289, 290, 291, 292, 391, 392, 393, 394, 395, 396, 397, 398, 399, 400, 401] (by decide +kernel) (by decide +kernel)
set_option maxRecDepth 20000 in
theorem gL_law_X3_access : GoodIn wsL_law (wsV RL 22 RX3 yX3_access wsX3_access) := goodIn_app (goodIn_of _ (by decide +kernel)) ggL_law_X3_access
set_option maxRecDepth 20000 in
theorem ggL_law_X2_flush : GoodIn wsL_law wsX2_flush := goodIn_r _ [296, 50, 15, 16, 297, 203, 204, 14, 205, 62, 137, 206, 207, 208, 209, 130, 131, 132, 194, 195, 196, 2, 197, 49, 85, 86, 87, 88, 25, 22, 89, 90, 91, 24, 92, 93, 94, 95, 96, 71, 31, 97, 98, 99, 100, 64, 65, 101, 102, 103, 104, 105, 26, 106, 107, 108, 109, 110, 111, 112, 113, 114, 115, 116, 117, 118, 119, 120, 121, 122, 123, 124, 125, 126, 127, 128, 129, 63, 133, 134, 135, 136, 138, 139, 140, 141, 142, 143, 144, 145, 146, 147, 148, 149, 150, 151, 152, 153, 154, 155, 156, 157, 158, 159, 160, 161, 162, 163, 164, 165, 166, 167, 168, 169, 170, 171, 172, 173, 174, 175, 61, 176, 177, 178, 179, 180, 181, 182, 183, 184, 185, 186, 187, 188, 189, 190, 191, 192, 193, 198, 199, 200, 201, 66, 202, 210, 211, 212, 213, 387, 388, 389, 390, 402, 403, 404, 405, 406, 407, 408, 409, 410, 411, 412] (by decide +kernel) (by decide +kernel)
set_option maxRecDepth 20000 in
theorem gL_law_X2_flush : GoodIn wsL_law (wsV RL 23 RX2 yX2_flush wsX2_flush) := goodIn_app (goodIn_of _ (by decide +kernel)) ggL_law_X2_flush
set_option maxRecDepth 20000 in
theorem ggL_law_X3_flush : GoodIn wsL_law wsX3_flush := goodIn_r _ [301, 77, 43, 285, 286, 287, 5, 288, 76, 218, 222, 223, 224, 225, 36, 44, 226, 227, 228, 229, 39, 37, 230, 231, 232, 233, 234, 235, 236, 237, 40, 238, 239, 240, 241, 242, 243, 244, 245, 246, 247, 248, 249, 250, 251, 252, 253, 254, 255, 256, 257, 42, 258, 259, 260, 261, 262, 263, 264, 265, 266, 267, 268, 269, 270, 271, 272, 273, 274, 275, 276, 277, 38, 278, 279, 280, 281, 282, 283, 284, 289, 290, 291, 292, 391, 392, 393, 394, 395, 396, 397, 398, 399, 400, 401] (by decide +kernel) (by decide +kernel)
set_option maxRecDepth 20000 in
theorem gL_law_X3_flush : GoodIn wsL_law (wsV RL 27 RX3 yX3_flush wsX3_flush) := goodIn_app (goodIn_of _ (by decide +kernel)) ggL_law_X3_flush
set_option maxRecDepth 20000 in
theorem ggL_law_X2_resident : GoodIn wsL_law wsX2_resident := goodIn_r _ [305, 306, 307, 308, 2, 309, 15, 16, 82, 83, 84, 85, 86, 87, 14, 88, 25, 22, 89, 90, 91, 24, 92, 93, 94, 95, 96, 71, 31, 387, 388, 389, 390, 402, 403, 404, 405, 406, 407, 408, 409, 410, 411, 412] (by decide +kernel) (by decide +kernel)
set_option maxRecDepth 20000 in
theorem gL_law_X2_resident : GoodIn wsL_law (wsV RL 28 RX2 yX2_resident wsX2_resident) := goodIn_app (goodIn_of _ (by decide +kernel)) ggL_law_X2_resident
set_option maxRecDepth 20000 in
theorem ggL_law_X3_resident : GoodIn wsL_law wsX3_resident := goodIn_r _ [313, 36, 314, 315, 5, 316, 219, 220, 221, 230, 231, 232, 233, 234, 235, 236, 237, 39, 40, 391, 392, 393, 394, 395, 396, 397, 398, 399, 400, 401] (by decide +kernel) (by decide +kernel)
set_option maxRecDepth 20000 in
theorem gL_law_X3_resident : GoodIn wsL_law (wsV RL 32 RX3 yX3_resident wsX3_resident) := goodIn_app (goodIn_of _ (by decide +kernel)) ggL_law_X3_resident
set_option maxRecDepth 20000 in
theorem ggL_law_X2_dirty : GoodIn wsL_law wsX2_dirty := goodIn_r _ [320, 306, 307, 308, 2, 309, 15, 16, 82, 83, 84, 321, 207, 208, 14, 209, 62, 130, 131, 132, 387, 388, 389, 390, 402, 403, 404, 405, 406, 407, 408, 409, 410] (by decide +kernel) (by decide +kernel)
set_option maxRecDepth 20000 in
theorem gL_law_X2_dirty : GoodIn wsL_law (wsV RL 33 RX2 yX2_dirty wsX2_dirty) := goodIn_app (goodIn_of _ (by decide +kernel)) ggL_law_X2_dirty
set_option maxRecDepth 20000 in
theorem ggL_law_X3_dirty : GoodIn wsL_law wsX3_dirty := goodIn_r _ [325, 43, 314, 315, 5, 316, 219, 220, 221, 391, 392, 393, 394, 395, 396, 397, 398, 399, 400, 401] (by decide +kernel) (by decide +kernel)
set_option maxRecDepth 20000 in
theorem gL_law_X3_dirty : GoodIn wsL_law (wsV RL 36 RX3 yX3_dirty wsX3_dirty) := goodIn_app (goodIn_of _ (by decide +kernel)) ggL_law_X3_dirty
set_option maxRecDepth 20000 in
theorem ggL_law_X2_marked : GoodIn wsL_law wsX2_marked := goodIn_r _ [329, 306, 307, 308, 2, 309, 15, 16, 82, 83, 84, 330, 143, 144, 14, 145, 63, 130, 131, 132, 387, 388, 389, 390, 402, 403, 404, 405, 406, 407, 408, 409, 410] (by decide +kernel) (by decide +kernel)
set_option maxRecDepth 20000 in
theorem gL_law_X2_marked : GoodIn wsL_law (wsV RL 37 RX2 yX2_marked wsX2_marked) := goodIn_app (goodIn_of _ (by decide +kernel)) ggL_law_X2_marked
set_option maxRecDepth 20000 in
theorem ggL_law_X3_marked : GoodIn wsL_law wsX3_marked := goodIn_r _ [334, 36, 42, 314, 315, 5, 316, 219, 220, 221, 391, 392, 393, 394, 395, 396, 397, 398, 399, 400, 401] (by decide +kernel) (by decide +kernel)
set_option maxRecDepth 20000 in
theorem gL_law_X3_marked : GoodIn wsL_law (wsV RL 40 RX3 yX3_marked wsX3_marked) := goodIn_app (goodIn_of _ (by decide +kernel)) ggL_law_X3_marked
set_option maxRecDepth 20000 in
theorem ggL_law_X2_row : GoodIn wsL_law wsX2_row := goodIn_r _ [338, 306, 307, 308, 2, 309, 15, 16, 339, 340, 341, 14, 342, 22, 138, 139, 140, 24, 141, 71, 31, 387, 388, 389, 390, 402, 403, 404, 405, 406, 407, 408, 409, 410, 411, 412] (by decide +kernel) (by decide +kernel)
set_option maxRecDepth 20000 in
theorem gL_law_X2_row : GoodIn wsL_law (wsV RL 41 RX2 yX2_row wsX2_row) := goodIn_app (goodIn_of _ (by decide +kernel)) ggL_law_X2_row
set_option maxRecDepth 20000 in
theorem ggL_law_X3_row : GoodIn wsL_law wsX3_row := goodIn_r _ [346, 39, 40, 314, 315, 5, 316, 391, 392, 393, 394, 395, 396, 397, 398, 399, 400, 401] (by decide +kernel) (by decide +kernel)
set_option maxRecDepth 20000 in
theorem gL_law_X3_row : GoodIn wsL_law (wsV RL 45 RX3 yX3_row wsX3_row) := goodIn_app (goodIn_of _ (by decide +kernel)) ggL_law_X3_row
set_option maxRecDepth 20000 in
theorem ggL_law_X2_goal : GoodIn wsL_law wsX2_goal := goodIn_r _ [350, 306, 307, 308, 2, 309, 15, 16, 351, 352, 353, 14, 354, 25, 61, 387, 388, 389, 390, 402, 403, 404, 405, 406, 407, 408, 409, 410] (by decide +kernel) (by decide +kernel)
set_option maxRecDepth 20000 in
theorem gL_law_X2_goal : GoodIn wsL_law (wsV RL 46 RX2 yX2_goal wsX2_goal) := goodIn_app (goodIn_of _ (by decide +kernel)) ggL_law_X2_goal
set_option maxRecDepth 20000 in
theorem ggL_law_X3_goal : GoodIn wsL_law wsX3_goal := goodIn_r _ [358, 36, 38, 314, 315, 5, 316, 391, 392, 393, 394, 395, 396, 397, 398, 399, 400, 401] (by decide +kernel) (by decide +kernel)
set_option maxRecDepth 20000 in
theorem gL_law_X3_goal : GoodIn wsL_law (wsV RL 50 RX3 yX3_goal wsX3_goal) := goodIn_app (goodIn_of _ (by decide +kernel)) ggL_law_X3_goal
set_option maxRecDepth 20000 in
theorem ggL_law_X2_count : GoodIn wsL_law wsX2_count := goodIn_r _ [362, 306, 307, 308, 2, 309, 15, 16, 363, 364, 365, 14, 366, 64, 65, 66, 387, 388, 389, 390, 402, 403, 404, 405, 406, 407, 408, 409, 410] (by decide +kernel) (by decide +kernel)
set_option maxRecDepth 20000 in
theorem gL_law_X2_count : GoodIn wsL_law (wsV RL 51 RX2 yX2_count wsX2_count) := goodIn_app (goodIn_of _ (by decide +kernel)) ggL_law_X2_count
set_option maxRecDepth 20000 in
theorem ggL_law_X3_count : GoodIn wsL_law wsX3_count := goodIn_r _ [370, 44, 314, 315, 5, 316, 391, 392, 393, 394, 395, 396, 397, 398, 399, 400, 401] (by decide +kernel) (by decide +kernel)
set_option maxRecDepth 20000 in
theorem gL_law_X3_count : GoodIn wsL_law (wsV RL 55 RX3 yX3_count wsX3_count) := goodIn_app (goodIn_of _ (by decide +kernel)) ggL_law_X3_count
set_option maxRecDepth 20000 in
theorem ggL_law_X2_reads : GoodIn wsL_law wsX2_reads := goodIn_r _ [374, 49, 387, 388, 389, 390] (by decide +kernel) (by decide +kernel)
set_option maxRecDepth 20000 in
theorem gL_law_X2_reads : GoodIn wsL_law (wsV RL 56 RX2 yX2_reads wsX2_reads) := goodIn_app (goodIn_of _ (by decide +kernel)) ggL_law_X2_reads
set_option maxRecDepth 20000 in
theorem ggL_law_X3_reads : GoodIn wsL_law wsX3_reads := goodIn_r _ [378, 76, 391, 392, 393, 394, 395, 396, 397, 398, 399, 400, 401] (by decide +kernel) (by decide +kernel)
set_option maxRecDepth 20000 in
theorem gL_law_X3_reads : GoodIn wsL_law (wsV RL 59 RX3 yX3_reads wsX3_reads) := goodIn_app (goodIn_of _ (by decide +kernel)) ggL_law_X3_reads
set_option maxRecDepth 20000 in
theorem ggL_law_X2_writes : GoodIn wsL_law wsX2_writes := goodIn_r _ [382, 50, 387, 388, 389, 390] (by decide +kernel) (by decide +kernel)
set_option maxRecDepth 20000 in
theorem gL_law_X2_writes : GoodIn wsL_law (wsV RL 60 RX2 yX2_writes wsX2_writes) := goodIn_app (goodIn_of _ (by decide +kernel)) ggL_law_X2_writes
set_option maxRecDepth 20000 in
theorem ggL_law_X3_writes : GoodIn wsL_law wsX3_writes := goodIn_r _ [386, 77, 391, 392, 393, 394, 395, 396, 397, 398, 399, 400, 401] (by decide +kernel) (by decide +kernel)
set_option maxRecDepth 20000 in
theorem gL_law_X3_writes : GoodIn wsL_law (wsV RL 63 RX3 yX3_writes wsX3_writes) := goodIn_app (goodIn_of _ (by decide +kernel)) ggL_law_X3_writes
theorem dL_law_0 : decode cL_law 0 = .ok (.new 7, 3) := by decide +kernel
theorem dL_law_3 : decode cL_law 3 = .ok (.dup, 1) := by decide +kernel
theorem dL_law_4 : decode cL_law 4 = .ok (.invokespecial 9, 3) := by decide +kernel
theorem dL_law_7 : decode cL_law 7 = .ok (.astore_n 1, 1) := by decide +kernel
theorem dL_law_8 : decode cL_law 8 = .ok (.new 10, 3) := by decide +kernel
theorem dL_law_11 : decode cL_law 11 = .ok (.dup, 1) := by decide +kernel
theorem dL_law_12 : decode cL_law 12 = .ok (.invokespecial 12, 3) := by decide +kernel
theorem dL_law_15 : decode cL_law 15 = .ok (.astore_n 2, 1) := by decide +kernel
theorem dL_law_16 : decode cL_law 16 = .ok (.iconst 0, 1) := by decide +kernel
theorem dL_law_17 : decode cL_law 17 = .ok (.istore_n 3, 1) := by decide +kernel
theorem dL_law_18 : decode cL_law 18 = .ok (.iload_n 3, 1) := by decide +kernel
theorem dL_law_19 : decode cL_law 19 = .ok (.aload_n 0, 1) := by decide +kernel
theorem dL_law_20 : decode cL_law 20 = .ok (.arraylength, 1) := by decide +kernel
theorem dL_law_21 : decode cL_law 21 = .ok (.iconst 5, 1) := by decide +kernel
theorem dL_law_22 : decode cL_law 22 = .ok (.isub, 1) := by decide +kernel
theorem dL_law_23 : decode cL_law 23 = .ok (.if_icmp .gt 414, 3) := by decide +kernel
theorem dL_law_26 : decode cL_law 26 = .ok (.aload_n 0, 1) := by decide +kernel
theorem dL_law_27 : decode cL_law 27 = .ok (.iload_n 3, 1) := by decide +kernel
theorem dL_law_28 : decode cL_law 28 = .ok (.iaload, 1) := by decide +kernel
theorem dL_law_29 : decode cL_law 29 = .ok (.bipush 15, 2) := by decide +kernel
theorem dL_law_31 : decode cL_law 31 = .ok (.iand, 1) := by decide +kernel
theorem dL_law_32 : decode cL_law 32 = .ok (.tableswitch 399 0 10 #[60, 113, 162, 175, 208, 241, 274, 317, 340, 373, 386], 60) := by decide +kernel
theorem dL_law_92 : decode cL_law 92 = .ok (.aload_n 1, 1) := by decide +kernel
theorem dL_law_93 : decode cL_law 93 = .ok (.aload_n 0, 1) := by decide +kernel
theorem dL_law_94 : decode cL_law 94 = .ok (.iload_n 3, 1) := by decide +kernel
theorem dL_law_95 : decode cL_law 95 = .ok (.iconst 1, 1) := by decide +kernel
theorem dL_law_96 : decode cL_law 96 = .ok (.iadd, 1) := by decide +kernel
theorem dL_law_97 : decode cL_law 97 = .ok (.iaload, 1) := by decide +kernel
theorem dL_law_98 : decode cL_law 98 = .ok (.aload_n 0, 1) := by decide +kernel
theorem dL_law_99 : decode cL_law 99 = .ok (.iload_n 3, 1) := by decide +kernel
theorem dL_law_100 : decode cL_law 100 = .ok (.iconst 2, 1) := by decide +kernel
theorem dL_law_101 : decode cL_law 101 = .ok (.iadd, 1) := by decide +kernel
theorem dL_law_102 : decode cL_law 102 = .ok (.iaload, 1) := by decide +kernel
theorem dL_law_103 : decode cL_law 103 = .ok (.aload_n 0, 1) := by decide +kernel
theorem dL_law_104 : decode cL_law 104 = .ok (.iload_n 3, 1) := by decide +kernel
theorem dL_law_105 : decode cL_law 105 = .ok (.iconst 3, 1) := by decide +kernel
theorem dL_law_106 : decode cL_law 106 = .ok (.iadd, 1) := by decide +kernel
theorem dL_law_107 : decode cL_law 107 = .ok (.iaload, 1) := by decide +kernel
theorem dL_law_108 : decode cL_law 108 = .ok (.aload_n 0, 1) := by decide +kernel
theorem dL_law_109 : decode cL_law 109 = .ok (.iload_n 3, 1) := by decide +kernel
theorem dL_law_110 : decode cL_law 110 = .ok (.iconst 4, 1) := by decide +kernel
theorem dL_law_111 : decode cL_law 111 = .ok (.iadd, 1) := by decide +kernel
theorem dL_law_112 : decode cL_law 112 = .ok (.iaload, 1) := by decide +kernel
theorem dL_law_113 : decode cL_law 113 = .ok (.invokevirtual 13, 3) := by decide +kernel
theorem dL_law_116 : decode cL_law 116 = .ok (.aload_n 2, 1) := by decide +kernel
theorem dL_law_117 : decode cL_law 117 = .ok (.aload_n 0, 1) := by decide +kernel
theorem dL_law_118 : decode cL_law 118 = .ok (.iload_n 3, 1) := by decide +kernel
theorem dL_law_119 : decode cL_law 119 = .ok (.iconst 1, 1) := by decide +kernel
theorem dL_law_120 : decode cL_law 120 = .ok (.iadd, 1) := by decide +kernel
theorem dL_law_121 : decode cL_law 121 = .ok (.iaload, 1) := by decide +kernel
theorem dL_law_122 : decode cL_law 122 = .ok (.aload_n 0, 1) := by decide +kernel
theorem dL_law_123 : decode cL_law 123 = .ok (.iload_n 3, 1) := by decide +kernel
theorem dL_law_124 : decode cL_law 124 = .ok (.iconst 2, 1) := by decide +kernel
theorem dL_law_125 : decode cL_law 125 = .ok (.iadd, 1) := by decide +kernel
theorem dL_law_126 : decode cL_law 126 = .ok (.iaload, 1) := by decide +kernel
theorem dL_law_127 : decode cL_law 127 = .ok (.aload_n 0, 1) := by decide +kernel
theorem dL_law_128 : decode cL_law 128 = .ok (.iload_n 3, 1) := by decide +kernel
theorem dL_law_129 : decode cL_law 129 = .ok (.iconst 3, 1) := by decide +kernel
theorem dL_law_130 : decode cL_law 130 = .ok (.iadd, 1) := by decide +kernel
theorem dL_law_131 : decode cL_law 131 = .ok (.iaload, 1) := by decide +kernel
theorem dL_law_132 : decode cL_law 132 = .ok (.aload_n 0, 1) := by decide +kernel
theorem dL_law_133 : decode cL_law 133 = .ok (.iload_n 3, 1) := by decide +kernel
theorem dL_law_134 : decode cL_law 134 = .ok (.iconst 4, 1) := by decide +kernel
theorem dL_law_135 : decode cL_law 135 = .ok (.iadd, 1) := by decide +kernel
theorem dL_law_136 : decode cL_law 136 = .ok (.iaload, 1) := by decide +kernel
theorem dL_law_137 : decode cL_law 137 = .ok (.invokevirtual 17, 3) := by decide +kernel
theorem dL_law_140 : decode cL_law 140 = .ok (.if_icmp .eq 291, 3) := by decide +kernel
theorem dL_law_143 : decode cL_law 143 = .ok (.iconst 0, 1) := by decide +kernel
theorem dL_law_144 : decode cL_law 144 = .ok (.ireturn, 1) := by decide +kernel
theorem dL_law_145 : decode cL_law 145 = .ok (.aload_n 1, 1) := by decide +kernel
theorem dL_law_146 : decode cL_law 146 = .ok (.aload_n 0, 1) := by decide +kernel
theorem dL_law_147 : decode cL_law 147 = .ok (.iload_n 3, 1) := by decide +kernel
theorem dL_law_148 : decode cL_law 148 = .ok (.iconst 1, 1) := by decide +kernel
theorem dL_law_149 : decode cL_law 149 = .ok (.iadd, 1) := by decide +kernel
theorem dL_law_150 : decode cL_law 150 = .ok (.iaload, 1) := by decide +kernel
theorem dL_law_151 : decode cL_law 151 = .ok (.aload_n 0, 1) := by decide +kernel
theorem dL_law_152 : decode cL_law 152 = .ok (.iload_n 3, 1) := by decide +kernel
theorem dL_law_153 : decode cL_law 153 = .ok (.iconst 2, 1) := by decide +kernel
theorem dL_law_154 : decode cL_law 154 = .ok (.iadd, 1) := by decide +kernel
theorem dL_law_155 : decode cL_law 155 = .ok (.iaload, 1) := by decide +kernel
theorem dL_law_156 : decode cL_law 156 = .ok (.ifCond .eq 7, 3) := by decide +kernel
theorem dL_law_159 : decode cL_law 159 = .ok (.iconst 1, 1) := by decide +kernel
theorem dL_law_160 : decode cL_law 160 = .ok (.goto 4, 3) := by decide +kernel
theorem dL_law_163 : decode cL_law 163 = .ok (.iconst 0, 1) := by decide +kernel
theorem dL_law_164 : decode cL_law 164 = .ok (.invokevirtual 18, 3) := by decide +kernel
theorem dL_law_167 : decode cL_law 167 = .ok (.aload_n 2, 1) := by decide +kernel
theorem dL_law_168 : decode cL_law 168 = .ok (.aload_n 0, 1) := by decide +kernel
theorem dL_law_169 : decode cL_law 169 = .ok (.iload_n 3, 1) := by decide +kernel
theorem dL_law_170 : decode cL_law 170 = .ok (.iconst 1, 1) := by decide +kernel
theorem dL_law_171 : decode cL_law 171 = .ok (.iadd, 1) := by decide +kernel
theorem dL_law_172 : decode cL_law 172 = .ok (.iaload, 1) := by decide +kernel
theorem dL_law_173 : decode cL_law 173 = .ok (.aload_n 0, 1) := by decide +kernel
theorem dL_law_174 : decode cL_law 174 = .ok (.iload_n 3, 1) := by decide +kernel
theorem dL_law_175 : decode cL_law 175 = .ok (.iconst 2, 1) := by decide +kernel
theorem dL_law_176 : decode cL_law 176 = .ok (.iadd, 1) := by decide +kernel
theorem dL_law_177 : decode cL_law 177 = .ok (.iaload, 1) := by decide +kernel
theorem dL_law_178 : decode cL_law 178 = .ok (.ifCond .eq 7, 3) := by decide +kernel
theorem dL_law_181 : decode cL_law 181 = .ok (.iconst 1, 1) := by decide +kernel
theorem dL_law_182 : decode cL_law 182 = .ok (.goto 4, 3) := by decide +kernel
theorem dL_law_185 : decode cL_law 185 = .ok (.iconst 0, 1) := by decide +kernel
theorem dL_law_186 : decode cL_law 186 = .ok (.invokevirtual 22, 3) := by decide +kernel
theorem dL_law_189 : decode cL_law 189 = .ok (.if_icmp .eq 242, 3) := by decide +kernel
theorem dL_law_192 : decode cL_law 192 = .ok (.iconst 0, 1) := by decide +kernel
theorem dL_law_193 : decode cL_law 193 = .ok (.ireturn, 1) := by decide +kernel
theorem dL_law_194 : decode cL_law 194 = .ok (.aload_n 1, 1) := by decide +kernel
theorem dL_law_195 : decode cL_law 195 = .ok (.invokevirtual 23, 3) := by decide +kernel
theorem dL_law_198 : decode cL_law 198 = .ok (.aload_n 2, 1) := by decide +kernel
theorem dL_law_199 : decode cL_law 199 = .ok (.invokevirtual 27, 3) := by decide +kernel
theorem dL_law_202 : decode cL_law 202 = .ok (.if_icmp .eq 229, 3) := by decide +kernel
theorem dL_law_205 : decode cL_law 205 = .ok (.iconst 0, 1) := by decide +kernel
theorem dL_law_206 : decode cL_law 206 = .ok (.ireturn, 1) := by decide +kernel
theorem dL_law_207 : decode cL_law 207 = .ok (.aload_n 1, 1) := by decide +kernel
theorem dL_law_208 : decode cL_law 208 = .ok (.aload_n 0, 1) := by decide +kernel
theorem dL_law_209 : decode cL_law 209 = .ok (.iload_n 3, 1) := by decide +kernel
theorem dL_law_210 : decode cL_law 210 = .ok (.iconst 1, 1) := by decide +kernel
theorem dL_law_211 : decode cL_law 211 = .ok (.iadd, 1) := by decide +kernel
theorem dL_law_212 : decode cL_law 212 = .ok (.iaload, 1) := by decide +kernel
theorem dL_law_213 : decode cL_law 213 = .ok (.aload_n 0, 1) := by decide +kernel
theorem dL_law_214 : decode cL_law 214 = .ok (.iload_n 3, 1) := by decide +kernel
theorem dL_law_215 : decode cL_law 215 = .ok (.iconst 2, 1) := by decide +kernel
theorem dL_law_216 : decode cL_law 216 = .ok (.iadd, 1) := by decide +kernel
theorem dL_law_217 : decode cL_law 217 = .ok (.iaload, 1) := by decide +kernel
theorem dL_law_218 : decode cL_law 218 = .ok (.invokevirtual 28, 3) := by decide +kernel
theorem dL_law_221 : decode cL_law 221 = .ok (.aload_n 2, 1) := by decide +kernel
theorem dL_law_222 : decode cL_law 222 = .ok (.aload_n 0, 1) := by decide +kernel
theorem dL_law_223 : decode cL_law 223 = .ok (.iload_n 3, 1) := by decide +kernel
theorem dL_law_224 : decode cL_law 224 = .ok (.iconst 1, 1) := by decide +kernel
theorem dL_law_225 : decode cL_law 225 = .ok (.iadd, 1) := by decide +kernel
theorem dL_law_226 : decode cL_law 226 = .ok (.iaload, 1) := by decide +kernel
theorem dL_law_227 : decode cL_law 227 = .ok (.aload_n 0, 1) := by decide +kernel
theorem dL_law_228 : decode cL_law 228 = .ok (.iload_n 3, 1) := by decide +kernel
theorem dL_law_229 : decode cL_law 229 = .ok (.iconst 2, 1) := by decide +kernel
theorem dL_law_230 : decode cL_law 230 = .ok (.iadd, 1) := by decide +kernel
theorem dL_law_231 : decode cL_law 231 = .ok (.iaload, 1) := by decide +kernel
theorem dL_law_232 : decode cL_law 232 = .ok (.invokevirtual 32, 3) := by decide +kernel
theorem dL_law_235 : decode cL_law 235 = .ok (.if_icmp .eq 196, 3) := by decide +kernel
theorem dL_law_238 : decode cL_law 238 = .ok (.iconst 0, 1) := by decide +kernel
theorem dL_law_239 : decode cL_law 239 = .ok (.ireturn, 1) := by decide +kernel
theorem dL_law_240 : decode cL_law 240 = .ok (.aload_n 1, 1) := by decide +kernel
theorem dL_law_241 : decode cL_law 241 = .ok (.aload_n 0, 1) := by decide +kernel
theorem dL_law_242 : decode cL_law 242 = .ok (.iload_n 3, 1) := by decide +kernel
theorem dL_law_243 : decode cL_law 243 = .ok (.iconst 1, 1) := by decide +kernel
theorem dL_law_244 : decode cL_law 244 = .ok (.iadd, 1) := by decide +kernel
theorem dL_law_245 : decode cL_law 245 = .ok (.iaload, 1) := by decide +kernel
theorem dL_law_246 : decode cL_law 246 = .ok (.aload_n 0, 1) := by decide +kernel
theorem dL_law_247 : decode cL_law 247 = .ok (.iload_n 3, 1) := by decide +kernel
theorem dL_law_248 : decode cL_law 248 = .ok (.iconst 2, 1) := by decide +kernel
theorem dL_law_249 : decode cL_law 249 = .ok (.iadd, 1) := by decide +kernel
theorem dL_law_250 : decode cL_law 250 = .ok (.iaload, 1) := by decide +kernel
theorem dL_law_251 : decode cL_law 251 = .ok (.invokevirtual 33, 3) := by decide +kernel
theorem dL_law_254 : decode cL_law 254 = .ok (.aload_n 2, 1) := by decide +kernel
theorem dL_law_255 : decode cL_law 255 = .ok (.aload_n 0, 1) := by decide +kernel
theorem dL_law_256 : decode cL_law 256 = .ok (.iload_n 3, 1) := by decide +kernel
theorem dL_law_257 : decode cL_law 257 = .ok (.iconst 1, 1) := by decide +kernel
theorem dL_law_258 : decode cL_law 258 = .ok (.iadd, 1) := by decide +kernel
theorem dL_law_259 : decode cL_law 259 = .ok (.iaload, 1) := by decide +kernel
theorem dL_law_260 : decode cL_law 260 = .ok (.aload_n 0, 1) := by decide +kernel
theorem dL_law_261 : decode cL_law 261 = .ok (.iload_n 3, 1) := by decide +kernel
theorem dL_law_262 : decode cL_law 262 = .ok (.iconst 2, 1) := by decide +kernel
theorem dL_law_263 : decode cL_law 263 = .ok (.iadd, 1) := by decide +kernel
theorem dL_law_264 : decode cL_law 264 = .ok (.iaload, 1) := by decide +kernel
theorem dL_law_265 : decode cL_law 265 = .ok (.invokevirtual 36, 3) := by decide +kernel
theorem dL_law_268 : decode cL_law 268 = .ok (.if_icmp .eq 163, 3) := by decide +kernel
theorem dL_law_271 : decode cL_law 271 = .ok (.iconst 0, 1) := by decide +kernel
theorem dL_law_272 : decode cL_law 272 = .ok (.ireturn, 1) := by decide +kernel
theorem dL_law_273 : decode cL_law 273 = .ok (.aload_n 1, 1) := by decide +kernel
theorem dL_law_274 : decode cL_law 274 = .ok (.aload_n 0, 1) := by decide +kernel
theorem dL_law_275 : decode cL_law 275 = .ok (.iload_n 3, 1) := by decide +kernel
theorem dL_law_276 : decode cL_law 276 = .ok (.iconst 1, 1) := by decide +kernel
theorem dL_law_277 : decode cL_law 277 = .ok (.iadd, 1) := by decide +kernel
theorem dL_law_278 : decode cL_law 278 = .ok (.iaload, 1) := by decide +kernel
theorem dL_law_279 : decode cL_law 279 = .ok (.aload_n 0, 1) := by decide +kernel
theorem dL_law_280 : decode cL_law 280 = .ok (.iload_n 3, 1) := by decide +kernel
theorem dL_law_281 : decode cL_law 281 = .ok (.iconst 2, 1) := by decide +kernel
theorem dL_law_282 : decode cL_law 282 = .ok (.iadd, 1) := by decide +kernel
theorem dL_law_283 : decode cL_law 283 = .ok (.iaload, 1) := by decide +kernel
theorem dL_law_284 : decode cL_law 284 = .ok (.invokevirtual 37, 3) := by decide +kernel
theorem dL_law_287 : decode cL_law 287 = .ok (.aload_n 2, 1) := by decide +kernel
theorem dL_law_288 : decode cL_law 288 = .ok (.aload_n 0, 1) := by decide +kernel
theorem dL_law_289 : decode cL_law 289 = .ok (.iload_n 3, 1) := by decide +kernel
theorem dL_law_290 : decode cL_law 290 = .ok (.iconst 1, 1) := by decide +kernel
theorem dL_law_291 : decode cL_law 291 = .ok (.iadd, 1) := by decide +kernel
theorem dL_law_292 : decode cL_law 292 = .ok (.iaload, 1) := by decide +kernel
theorem dL_law_293 : decode cL_law 293 = .ok (.aload_n 0, 1) := by decide +kernel
theorem dL_law_294 : decode cL_law 294 = .ok (.iload_n 3, 1) := by decide +kernel
theorem dL_law_295 : decode cL_law 295 = .ok (.iconst 2, 1) := by decide +kernel
theorem dL_law_296 : decode cL_law 296 = .ok (.iadd, 1) := by decide +kernel
theorem dL_law_297 : decode cL_law 297 = .ok (.iaload, 1) := by decide +kernel
theorem dL_law_298 : decode cL_law 298 = .ok (.invokevirtual 40, 3) := by decide +kernel
theorem dL_law_301 : decode cL_law 301 = .ok (.if_icmp .eq 130, 3) := by decide +kernel
theorem dL_law_304 : decode cL_law 304 = .ok (.iconst 0, 1) := by decide +kernel
theorem dL_law_305 : decode cL_law 305 = .ok (.ireturn, 1) := by decide +kernel
theorem dL_law_306 : decode cL_law 306 = .ok (.aload_n 1, 1) := by decide +kernel
theorem dL_law_307 : decode cL_law 307 = .ok (.aload_n 0, 1) := by decide +kernel
theorem dL_law_308 : decode cL_law 308 = .ok (.iload_n 3, 1) := by decide +kernel
theorem dL_law_309 : decode cL_law 309 = .ok (.iconst 1, 1) := by decide +kernel
theorem dL_law_310 : decode cL_law 310 = .ok (.iadd, 1) := by decide +kernel
theorem dL_law_311 : decode cL_law 311 = .ok (.iaload, 1) := by decide +kernel
theorem dL_law_312 : decode cL_law 312 = .ok (.aload_n 0, 1) := by decide +kernel
theorem dL_law_313 : decode cL_law 313 = .ok (.iload_n 3, 1) := by decide +kernel
theorem dL_law_314 : decode cL_law 314 = .ok (.iconst 2, 1) := by decide +kernel
theorem dL_law_315 : decode cL_law 315 = .ok (.iadd, 1) := by decide +kernel
theorem dL_law_316 : decode cL_law 316 = .ok (.iaload, 1) := by decide +kernel
theorem dL_law_317 : decode cL_law 317 = .ok (.aload_n 0, 1) := by decide +kernel
theorem dL_law_318 : decode cL_law 318 = .ok (.iload_n 3, 1) := by decide +kernel
theorem dL_law_319 : decode cL_law 319 = .ok (.iconst 3, 1) := by decide +kernel
theorem dL_law_320 : decode cL_law 320 = .ok (.iadd, 1) := by decide +kernel
theorem dL_law_321 : decode cL_law 321 = .ok (.iaload, 1) := by decide +kernel
theorem dL_law_322 : decode cL_law 322 = .ok (.invokevirtual 41, 3) := by decide +kernel
theorem dL_law_325 : decode cL_law 325 = .ok (.aload_n 2, 1) := by decide +kernel
theorem dL_law_326 : decode cL_law 326 = .ok (.aload_n 0, 1) := by decide +kernel
theorem dL_law_327 : decode cL_law 327 = .ok (.iload_n 3, 1) := by decide +kernel
theorem dL_law_328 : decode cL_law 328 = .ok (.iconst 1, 1) := by decide +kernel
theorem dL_law_329 : decode cL_law 329 = .ok (.iadd, 1) := by decide +kernel
theorem dL_law_330 : decode cL_law 330 = .ok (.iaload, 1) := by decide +kernel
theorem dL_law_331 : decode cL_law 331 = .ok (.aload_n 0, 1) := by decide +kernel
theorem dL_law_332 : decode cL_law 332 = .ok (.iload_n 3, 1) := by decide +kernel
theorem dL_law_333 : decode cL_law 333 = .ok (.iconst 2, 1) := by decide +kernel
theorem dL_law_334 : decode cL_law 334 = .ok (.iadd, 1) := by decide +kernel
theorem dL_law_335 : decode cL_law 335 = .ok (.iaload, 1) := by decide +kernel
theorem dL_law_336 : decode cL_law 336 = .ok (.aload_n 0, 1) := by decide +kernel
theorem dL_law_337 : decode cL_law 337 = .ok (.iload_n 3, 1) := by decide +kernel
theorem dL_law_338 : decode cL_law 338 = .ok (.iconst 3, 1) := by decide +kernel
theorem dL_law_339 : decode cL_law 339 = .ok (.iadd, 1) := by decide +kernel
theorem dL_law_340 : decode cL_law 340 = .ok (.iaload, 1) := by decide +kernel
theorem dL_law_341 : decode cL_law 341 = .ok (.invokevirtual 45, 3) := by decide +kernel
theorem dL_law_344 : decode cL_law 344 = .ok (.if_icmp .eq 87, 3) := by decide +kernel
theorem dL_law_347 : decode cL_law 347 = .ok (.iconst 0, 1) := by decide +kernel
theorem dL_law_348 : decode cL_law 348 = .ok (.ireturn, 1) := by decide +kernel
theorem dL_law_349 : decode cL_law 349 = .ok (.aload_n 1, 1) := by decide +kernel
theorem dL_law_350 : decode cL_law 350 = .ok (.aload_n 0, 1) := by decide +kernel
theorem dL_law_351 : decode cL_law 351 = .ok (.iload_n 3, 1) := by decide +kernel
theorem dL_law_352 : decode cL_law 352 = .ok (.iconst 1, 1) := by decide +kernel
theorem dL_law_353 : decode cL_law 353 = .ok (.iadd, 1) := by decide +kernel
theorem dL_law_354 : decode cL_law 354 = .ok (.iaload, 1) := by decide +kernel
theorem dL_law_355 : decode cL_law 355 = .ok (.invokevirtual 46, 3) := by decide +kernel
theorem dL_law_358 : decode cL_law 358 = .ok (.aload_n 2, 1) := by decide +kernel
theorem dL_law_359 : decode cL_law 359 = .ok (.aload_n 0, 1) := by decide +kernel
theorem dL_law_360 : decode cL_law 360 = .ok (.iload_n 3, 1) := by decide +kernel
theorem dL_law_361 : decode cL_law 361 = .ok (.iconst 1, 1) := by decide +kernel
theorem dL_law_362 : decode cL_law 362 = .ok (.iadd, 1) := by decide +kernel
theorem dL_law_363 : decode cL_law 363 = .ok (.iaload, 1) := by decide +kernel
theorem dL_law_364 : decode cL_law 364 = .ok (.invokevirtual 50, 3) := by decide +kernel
theorem dL_law_367 : decode cL_law 367 = .ok (.if_icmp .eq 64, 3) := by decide +kernel
theorem dL_law_370 : decode cL_law 370 = .ok (.iconst 0, 1) := by decide +kernel
theorem dL_law_371 : decode cL_law 371 = .ok (.ireturn, 1) := by decide +kernel
theorem dL_law_372 : decode cL_law 372 = .ok (.aload_n 1, 1) := by decide +kernel
theorem dL_law_373 : decode cL_law 373 = .ok (.aload_n 0, 1) := by decide +kernel
theorem dL_law_374 : decode cL_law 374 = .ok (.iload_n 3, 1) := by decide +kernel
theorem dL_law_375 : decode cL_law 375 = .ok (.iconst 1, 1) := by decide +kernel
theorem dL_law_376 : decode cL_law 376 = .ok (.iadd, 1) := by decide +kernel
theorem dL_law_377 : decode cL_law 377 = .ok (.iaload, 1) := by decide +kernel
theorem dL_law_378 : decode cL_law 378 = .ok (.aload_n 0, 1) := by decide +kernel
theorem dL_law_379 : decode cL_law 379 = .ok (.iload_n 3, 1) := by decide +kernel
theorem dL_law_380 : decode cL_law 380 = .ok (.iconst 2, 1) := by decide +kernel
theorem dL_law_381 : decode cL_law 381 = .ok (.iadd, 1) := by decide +kernel
theorem dL_law_382 : decode cL_law 382 = .ok (.iaload, 1) := by decide +kernel
theorem dL_law_383 : decode cL_law 383 = .ok (.invokevirtual 51, 3) := by decide +kernel
theorem dL_law_386 : decode cL_law 386 = .ok (.aload_n 2, 1) := by decide +kernel
theorem dL_law_387 : decode cL_law 387 = .ok (.aload_n 0, 1) := by decide +kernel
theorem dL_law_388 : decode cL_law 388 = .ok (.iload_n 3, 1) := by decide +kernel
theorem dL_law_389 : decode cL_law 389 = .ok (.iconst 1, 1) := by decide +kernel
theorem dL_law_390 : decode cL_law 390 = .ok (.iadd, 1) := by decide +kernel
theorem dL_law_391 : decode cL_law 391 = .ok (.iaload, 1) := by decide +kernel
theorem dL_law_392 : decode cL_law 392 = .ok (.aload_n 0, 1) := by decide +kernel
theorem dL_law_393 : decode cL_law 393 = .ok (.iload_n 3, 1) := by decide +kernel
theorem dL_law_394 : decode cL_law 394 = .ok (.iconst 2, 1) := by decide +kernel
theorem dL_law_395 : decode cL_law 395 = .ok (.iadd, 1) := by decide +kernel
theorem dL_law_396 : decode cL_law 396 = .ok (.iaload, 1) := by decide +kernel
theorem dL_law_397 : decode cL_law 397 = .ok (.invokevirtual 55, 3) := by decide +kernel
theorem dL_law_400 : decode cL_law 400 = .ok (.if_icmp .eq 31, 3) := by decide +kernel
theorem dL_law_403 : decode cL_law 403 = .ok (.iconst 0, 1) := by decide +kernel
theorem dL_law_404 : decode cL_law 404 = .ok (.ireturn, 1) := by decide +kernel
theorem dL_law_405 : decode cL_law 405 = .ok (.aload_n 1, 1) := by decide +kernel
theorem dL_law_406 : decode cL_law 406 = .ok (.invokevirtual 56, 3) := by decide +kernel
theorem dL_law_409 : decode cL_law 409 = .ok (.aload_n 2, 1) := by decide +kernel
theorem dL_law_410 : decode cL_law 410 = .ok (.invokevirtual 59, 3) := by decide +kernel
theorem dL_law_413 : decode cL_law 413 = .ok (.if_icmp .eq 18, 3) := by decide +kernel
theorem dL_law_416 : decode cL_law 416 = .ok (.iconst 0, 1) := by decide +kernel
theorem dL_law_417 : decode cL_law 417 = .ok (.ireturn, 1) := by decide +kernel
theorem dL_law_418 : decode cL_law 418 = .ok (.aload_n 1, 1) := by decide +kernel
theorem dL_law_419 : decode cL_law 419 = .ok (.invokevirtual 60, 3) := by decide +kernel
theorem dL_law_422 : decode cL_law 422 = .ok (.aload_n 2, 1) := by decide +kernel
theorem dL_law_423 : decode cL_law 423 = .ok (.invokevirtual 63, 3) := by decide +kernel
theorem dL_law_426 : decode cL_law 426 = .ok (.if_icmp .eq 5, 3) := by decide +kernel
theorem dL_law_429 : decode cL_law 429 = .ok (.iconst 0, 1) := by decide +kernel
theorem dL_law_430 : decode cL_law 430 = .ok (.ireturn, 1) := by decide +kernel
theorem dL_law_431 : decode cL_law 431 = .ok (.iinc 3 5, 3) := by decide +kernel
theorem dL_law_434 : decode cL_law 434 = .ok (.goto (-416), 3) := by decide +kernel
theorem dL_law_437 : decode cL_law 437 = .ok (.iconst 1, 1) := by decide +kernel
theorem dL_law_438 : decode cL_law 438 = .ok (.ireturn, 1) := by decide +kernel
