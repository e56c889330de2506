theorem dX3_init_0 : decode cX3_init 0 = .ok (.aload_n 0, 1) := by decide +kernel
theorem dX3_init_1 : decode cX3_init 1 = .ok (.invokespecial 1, 3) := by decide +kernel
theorem dX3_init_4 : decode cX3_init 4 = .ok (.aload_n 0, 1) := by decide +kernel
theorem dX3_init_5 : decode cX3_init 5 = .ok (.iconst (-1), 1) := by decide +kernel
theorem dX3_init_6 : decode cX3_init 6 = .ok (.putfield 7, 3) := by decide +kernel
theorem dX3_init_9 : decode cX3_init 9 = .ok (.return_, 1) := by decide +kernel
theorem dX3_dark_0 : decode cX3_dark 0 = .ok (.aload_n 0, 1) := by decide +kernel
theorem dX3_dark_1 : decode cX3_dark 1 = .ok (.iconst 0, 1) := by decide +kernel
theorem dX3_dark_2 : decode cX3_dark 2 = .ok (.putfield 33, 3) := by decide +kernel
theorem dX3_dark_5 : decode cX3_dark 5 = .ok (.aload_n 0, 1) := by decide +kernel
theorem dX3_dark_6 : decode cX3_dark 6 = .ok (.iconst 0, 1) := by decide +kernel
theorem dX3_dark_7 : decode cX3_dark 7 = .ok (.putfield 36, 3) := by decide +kernel
theorem dX3_dark_10 : decode cX3_dark 10 = .ok (.aload_n 0, 1) := by decide +kernel
theorem dX3_dark_11 : decode cX3_dark 11 = .ok (.iconst (-1), 1) := by decide +kernel
theorem dX3_dark_12 : decode cX3_dark 12 = .ok (.putfield 7, 3) := by decide +kernel
theorem dX3_dark_15 : decode cX3_dark 15 = .ok (.return_, 1) := by decide +kernel
theorem dX4_init_0 : decode cX4_init 0 = .ok (.aload_n 0, 1) := by decide +kernel
theorem dX4_init_1 : decode cX4_init 1 = .ok (.invokespecial 1, 3) := by decide +kernel
theorem dX4_init_4 : decode cX4_init 4 = .ok (.aload_n 0, 1) := by decide +kernel
theorem dX4_init_5 : decode cX4_init 5 = .ok (.iconst 0, 1) := by decide +kernel
theorem dX4_init_6 : decode cX4_init 6 = .ok (.anewarray 7, 3) := by decide +kernel
theorem dX4_init_9 : decode cX4_init 9 = .ok (.putfield 9, 3) := by decide +kernel
theorem dX4_init_12 : decode cX4_init 12 = .ok (.aload_n 0, 1) := by decide +kernel
theorem dX4_init_13 : decode cX4_init 13 = .ok (.bipush 10, 2) := by decide +kernel
theorem dX4_init_15 : decode cX4_init 15 = .ok (.bipush 10, 2) := by decide +kernel
theorem dX4_init_17 : decode cX4_init 17 = .ok (.multianewarray 15 2, 4) := by decide +kernel
theorem dX4_init_21 : decode cX4_init 21 = .ok (.putfield 17, 3) := by decide +kernel
theorem dX4_init_24 : decode cX4_init 24 = .ok (.return_, 1) := by decide +kernel
theorem dX4_sees_0 : decode cX4_sees 0 = .ok (.aload_n 0, 1) := by decide +kernel
theorem dX4_sees_1 : decode cX4_sees 1 = .ok (.getfield 17, 3) := by decide +kernel
theorem dX4_sees_4 : decode cX4_sees 4 = .ok (.iload_n 1, 1) := by decide +kernel
theorem dX4_sees_5 : decode cX4_sees 5 = .ok (.aaload, 1) := by decide +kernel
theorem dX4_sees_6 : decode cX4_sees 6 = .ok (.iload_n 2, 1) := by decide +kernel
theorem dX4_sees_7 : decode cX4_sees 7 = .ok (.iaload, 1) := by decide +kernel
theorem dX4_sees_8 : decode cX4_sees 8 = .ok (.ifCond .le 27, 3) := by decide +kernel
theorem dX4_sees_11 : decode cX4_sees 11 = .ok (.aload_n 0, 1) := by decide +kernel
theorem dX4_sees_12 : decode cX4_sees 12 = .ok (.getfield 17, 3) := by decide +kernel
theorem dX4_sees_15 : decode cX4_sees 15 = .ok (.iload_n 1, 1) := by decide +kernel
theorem dX4_sees_16 : decode cX4_sees 16 = .ok (.aaload, 1) := by decide +kernel
theorem dX4_sees_17 : decode cX4_sees 17 = .ok (.iload_n 2, 1) := by decide +kernel
theorem dX4_sees_18 : decode cX4_sees 18 = .ok (.iaload, 1) := by decide +kernel
theorem dX4_sees_19 : decode cX4_sees 19 = .ok (.iconst 2, 1) := by decide +kernel
theorem dX4_sees_20 : decode cX4_sees 20 = .ok (.aload_n 0, 1) := by decide +kernel
theorem dX4_sees_21 : decode cX4_sees 21 = .ok (.getfield 25, 3) := by decide +kernel
theorem dX4_sees_24 : decode cX4_sees 24 = .ok (.imul, 1) := by decide +kernel
theorem dX4_sees_25 : decode cX4_sees 25 = .ok (.iadd, 1) := by decide +kernel
theorem dX4_sees_26 : decode cX4_sees 26 = .ok (.bipush 20, 2) := by decide +kernel
theorem dX4_sees_28 : decode cX4_sees 28 = .ok (.if_icmp .gt 7, 3) := by decide +kernel
theorem dX4_sees_31 : decode cX4_sees 31 = .ok (.iconst 1, 1) := by decide +kernel
theorem dX4_sees_32 : decode cX4_sees 32 = .ok (.goto 4, 3) := by decide +kernel
theorem dX4_sees_35 : decode cX4_sees 35 = .ok (.iconst 0, 1) := by decide +kernel
theorem dX4_sees_36 : decode cX4_sees 36 = .ok (.ireturn, 1) := by decide +kernel
theorem dX4_light_0 : decode cX4_light 0 = .ok (.aload_n 1, 1) := by decide +kernel
theorem dX4_light_1 : decode cX4_light 1 = .ok (.dup, 1) := by decide +kernel
theorem dX4_light_2 : decode cX4_light 2 = .ok (.getfield 41, 3) := by decide +kernel
theorem dX4_light_5 : decode cX4_light 5 = .ok (.iconst 1, 1) := by decide +kernel
theorem dX4_light_6 : decode cX4_light 6 = .ok (.isub, 1) := by decide +kernel
theorem dX4_light_7 : decode cX4_light 7 = .ok (.putfield 41, 3) := by decide +kernel
theorem dX4_light_10 : decode cX4_light 10 = .ok (.aload_n 1, 1) := by decide +kernel
theorem dX4_light_11 : decode cX4_light 11 = .ok (.iconst 0, 1) := by decide +kernel
theorem dX4_light_12 : decode cX4_light 12 = .ok (.putfield 44, 3) := by decide +kernel
theorem dX4_light_15 : decode cX4_light 15 = .ok (.aload_n 1, 1) := by decide +kernel
theorem dX4_light_16 : decode cX4_light 16 = .ok (.iconst 1, 1) := by decide +kernel
theorem dX4_light_17 : decode cX4_light 17 = .ok (.putfield 47, 3) := by decide +kernel
theorem dX4_light_20 : decode cX4_light 20 = .ok (.aload_n 1, 1) := by decide +kernel
theorem dX4_light_21 : decode cX4_light 21 = .ok (.aload_n 1, 1) := by decide +kernel
theorem dX4_light_22 : decode cX4_light 22 = .ok (.getfield 50, 3) := by decide +kernel
theorem dX4_light_25 : decode cX4_light 25 = .ok (.iconst 1, 1) := by decide +kernel
theorem dX4_light_26 : decode cX4_light 26 = .ok (.iadd, 1) := by decide +kernel
theorem dX4_light_27 : decode cX4_light 27 = .ok (.putfield 53, 3) := by decide +kernel
theorem dX4_light_30 : decode cX4_light 30 = .ok (.aload_n 1, 1) := by decide +kernel
theorem dX4_light_31 : decode cX4_light 31 = .ok (.iload_n 2, 1) := by decide +kernel
theorem dX4_light_32 : decode cX4_light 32 = .ok (.putfield 56, 3) := by decide +kernel
theorem dX4_light_35 : decode cX4_light 35 = .ok (.aload_n 0, 1) := by decide +kernel
theorem dX4_light_36 : decode cX4_light 36 = .ok (.dup, 1) := by decide +kernel
theorem dX4_light_37 : decode cX4_light 37 = .ok (.getfield 31, 3) := by decide +kernel
theorem dX4_light_40 : decode cX4_light 40 = .ok (.iconst 1, 1) := by decide +kernel
theorem dX4_light_41 : decode cX4_light 41 = .ok (.iadd, 1) := by decide +kernel
theorem dX4_light_42 : decode cX4_light 42 = .ok (.putfield 31, 3) := by decide +kernel
theorem dX4_light_45 : decode cX4_light 45 = .ok (.iload_n 2, 1) := by decide +kernel
theorem dX4_light_46 : decode cX4_light 46 = .ok (.ifCond .ge 13, 3) := by decide +kernel
theorem dX4_light_49 : decode cX4_light 49 = .ok (.aload_n 0, 1) := by decide +kernel
theorem dX4_light_50 : decode cX4_light 50 = .ok (.dup, 1) := by decide +kernel
theorem dX4_light_51 : decode cX4_light 51 = .ok (.getfield 34, 3) := by decide +kernel
theorem dX4_light_54 : decode cX4_light 54 = .ok (.iconst 1, 1) := by decide +kernel
theorem dX4_light_55 : decode cX4_light 55 = .ok (.iadd, 1) := by decide +kernel
theorem dX4_light_56 : decode cX4_light 56 = .ok (.putfield 34, 3) := by decide +kernel
theorem dX4_light_59 : decode cX4_light 59 = .ok (.aload_n 1, 1) := by decide +kernel
theorem dX4_light_60 : decode cX4_light 60 = .ok (.getfield 53, 3) := by decide +kernel
theorem dX4_light_63 : decode cX4_light 63 = .ok (.ireturn, 1) := by decide +kernel
set_option maxRecDepth 20000 in
theorem ggX4_pass_X4_sees : GoodIn wsX4_pass wsX4_sees := goodIn_r _ [20, 6, 21, 37, 38, 39, 40, 41, 42, 43] (by decide +kernel) (by decide +kernel)
set_option maxRecDepth 20000 in
theorem gX4_pass_X4_sees : GoodIn wsX4_pass (wsV RX4 62 RX4 yX4_sees wsX4_sees) := goodIn_app (goodIn_of _ (by decide +kernel)) ggX4_pass_X4_sees
set_option maxRecDepth 20000 in
theorem ggX4_pass_X4_light : GoodIn wsX4_pass wsX4_light := goodIn_r _ [25, 7, 10, 3, 26, 12, 4, 27, 28, 44, 45, 46, 47, 48, 49, 50, 51, 52, 53, 54, 37, 38, 39, 40, 41, 42, 43] (by decide +kernel) (by decide +kernel)
set_option maxRecDepth 20000 in
theorem gX4_pass_X4_light : GoodIn wsX4_pass (wsV RX4 73 RX4 yX4_light wsX4_light) := goodIn_app (goodIn_of _ (by decide +kernel)) ggX4_pass_X4_light
set_option maxRecDepth 20000 in
theorem ggX4_pass_X3_dark : GoodIn wsX4_pass wsX3_dark := goodIn_r _ [33, 34, 35, 36, 44, 45, 46, 47, 48, 49, 50, 51, 52, 53, 54] (by decide +kernel) (by decide +kernel)
set_option maxRecDepth 20000 in
theorem gX4_pass_X3_dark : GoodIn wsX4_pass (wsV RX4 83 RX3 yX3_dark wsX3_dark) := goodIn_app (goodIn_of _ (by decide +kernel)) ggX4_pass_X3_dark
theorem dX4_pass_0 : decode cX4_pass 0 = .ok (.aload_n 0, 1) := by decide +kernel
theorem dX4_pass_1 : decode cX4_pass 1 = .ok (.getfield 9, 3) := by decide +kernel
theorem dX4_pass_4 : decode cX4_pass 4 = .ok (.arraylength, 1) := by decide +kernel
theorem dX4_pass_5 : decode cX4_pass 5 = .ok (.istore_n 1, 1) := by decide +kernel
theorem dX4_pass_6 : decode cX4_pass 6 = .ok (.iload_n 1, 1) := by decide +kernel
theorem dX4_pass_7 : decode cX4_pass 7 = .ok (.newarray .int, 2) := by decide +kernel
theorem dX4_pass_9 : decode cX4_pass 9 = .ok (.astore_n 2, 1) := by decide +kernel
theorem dX4_pass_10 : decode cX4_pass 10 = .ok (.iload_n 1, 1) := by decide +kernel
theorem dX4_pass_11 : decode cX4_pass 11 = .ok (.newarray .int, 2) := by decide +kernel
theorem dX4_pass_13 : decode cX4_pass 13 = .ok (.astore_n 3, 1) := by decide +kernel
theorem dX4_pass_14 : decode cX4_pass 14 = .ok (.iconst 0, 1) := by decide +kernel
theorem dX4_pass_15 : decode cX4_pass 15 = .ok (.istore 4, 2) := by decide +kernel
theorem dX4_pass_17 : decode cX4_pass 17 = .ok (.iload 4, 2) := by decide +kernel
theorem dX4_pass_19 : decode cX4_pass 19 = .ok (.iload_n 1, 1) := by decide +kernel
theorem dX4_pass_20 : decode cX4_pass 20 = .ok (.if_icmp .ge 37, 3) := by decide +kernel
theorem dX4_pass_23 : decode cX4_pass 23 = .ok (.aload_n 2, 1) := by decide +kernel
theorem dX4_pass_24 : decode cX4_pass 24 = .ok (.iload 4, 2) := by decide +kernel
theorem dX4_pass_26 : decode cX4_pass 26 = .ok (.aload_n 0, 1) := by decide +kernel
theorem dX4_pass_27 : decode cX4_pass 27 = .ok (.getfield 9, 3) := by decide +kernel
theorem dX4_pass_30 : decode cX4_pass 30 = .ok (.iload 4, 2) := by decide +kernel
theorem dX4_pass_32 : decode cX4_pass 32 = .ok (.aaload, 1) := by decide +kernel
theorem dX4_pass_33 : decode cX4_pass 33 = .ok (.getfield 47, 3) := by decide +kernel
theorem dX4_pass_36 : decode cX4_pass 36 = .ok (.iastore, 1) := by decide +kernel
theorem dX4_pass_37 : decode cX4_pass 37 = .ok (.aload_n 3, 1) := by decide +kernel
theorem dX4_pass_38 : decode cX4_pass 38 = .ok (.iload 4, 2) := by decide +kernel
theorem dX4_pass_40 : decode cX4_pass 40 = .ok (.aload_n 0, 1) := by decide +kernel
theorem dX4_pass_41 : decode cX4_pass 41 = .ok (.getfield 9, 3) := by decide +kernel
theorem dX4_pass_44 : decode cX4_pass 44 = .ok (.iload 4, 2) := by decide +kernel
theorem dX4_pass_46 : decode cX4_pass 46 = .ok (.aaload, 1) := by decide +kernel
theorem dX4_pass_47 : decode cX4_pass 47 = .ok (.getfield 56, 3) := by decide +kernel
theorem dX4_pass_50 : decode cX4_pass 50 = .ok (.iastore, 1) := by decide +kernel
theorem dX4_pass_51 : decode cX4_pass 51 = .ok (.iinc 4 1, 3) := by decide +kernel
theorem dX4_pass_54 : decode cX4_pass 54 = .ok (.goto (-37), 3) := by decide +kernel
theorem dX4_pass_57 : decode cX4_pass 57 = .ok (.aload_n 0, 1) := by decide +kernel
theorem dX4_pass_58 : decode cX4_pass 58 = .ok (.getfield 9, 3) := by decide +kernel
theorem dX4_pass_61 : decode cX4_pass 61 = .ok (.astore 4, 2) := by decide +kernel
theorem dX4_pass_63 : decode cX4_pass 63 = .ok (.aload 4, 2) := by decide +kernel
theorem dX4_pass_65 : decode cX4_pass 65 = .ok (.arraylength, 1) := by decide +kernel
theorem dX4_pass_66 : decode cX4_pass 66 = .ok (.istore 5, 2) := by decide +kernel
theorem dX4_pass_68 : decode cX4_pass 68 = .ok (.iconst 0, 1) := by decide +kernel
theorem dX4_pass_69 : decode cX4_pass 69 = .ok (.istore 6, 2) := by decide +kernel
theorem dX4_pass_71 : decode cX4_pass 71 = .ok (.iload 6, 2) := by decide +kernel
theorem dX4_pass_73 : decode cX4_pass 73 = .ok (.iload 5, 2) := by decide +kernel
theorem dX4_pass_75 : decode cX4_pass 75 = .ok (.if_icmp .ge 199, 3) := by decide +kernel
theorem dX4_pass_78 : decode cX4_pass 78 = .ok (.aload 4, 2) := by decide +kernel
theorem dX4_pass_80 : decode cX4_pass 80 = .ok (.iload 6, 2) := by decide +kernel
theorem dX4_pass_82 : decode cX4_pass 82 = .ok (.aaload, 1) := by decide +kernel
theorem dX4_pass_83 : decode cX4_pass 83 = .ok (.astore 7, 2) := by decide +kernel
theorem dX4_pass_85 : decode cX4_pass 85 = .ok (.iconst (-1), 1) := by decide +kernel
theorem dX4_pass_86 : decode cX4_pass 86 = .ok (.istore 8, 2) := by decide +kernel
theorem dX4_pass_88 : decode cX4_pass 88 = .ok (.iload_n 1, 1) := by decide +kernel
theorem dX4_pass_89 : decode cX4_pass 89 = .ok (.iconst 1, 1) := by decide +kernel
theorem dX4_pass_90 : decode cX4_pass 90 = .ok (.isub, 1) := by decide +kernel
theorem dX4_pass_91 : decode cX4_pass 91 = .ok (.istore 9, 2) := by decide +kernel
theorem dX4_pass_93 : decode cX4_pass 93 = .ok (.iload 9, 2) := by decide +kernel
theorem dX4_pass_95 : decode cX4_pass 95 = .ok (.ifCond .lt 69, 3) := by decide +kernel
theorem dX4_pass_98 : decode cX4_pass 98 = .ok (.aload_n 2, 1) := by decide +kernel
theorem dX4_pass_99 : decode cX4_pass 99 = .ok (.iload 9, 2) := by decide +kernel
theorem dX4_pass_101 : decode cX4_pass 101 = .ok (.iaload, 1) := by decide +kernel
theorem dX4_pass_102 : decode cX4_pass 102 = .ok (.iconst 2, 1) := by decide +kernel
theorem dX4_pass_103 : decode cX4_pass 103 = .ok (.if_icmp .ne 55, 3) := by decide +kernel
theorem dX4_pass_106 : decode cX4_pass 106 = .ok (.aload_n 0, 1) := by decide +kernel
theorem dX4_pass_107 : decode cX4_pass 107 = .ok (.aload 7, 2) := by decide +kernel
theorem dX4_pass_109 : decode cX4_pass 109 = .ok (.getfield 59, 3) := by decide +kernel
theorem dX4_pass_112 : decode cX4_pass 112 = .ok (.iload 9, 2) := by decide +kernel
theorem dX4_pass_114 : decode cX4_pass 114 = .ok (.invokevirtual 62, 3) := by decide +kernel
theorem dX4_pass_117 : decode cX4_pass 117 = .ok (.ifCond .eq 41, 3) := by decide +kernel
theorem dX4_pass_120 : decode cX4_pass 120 = .ok (.iload 8, 2) := by decide +kernel
theorem dX4_pass_122 : decode cX4_pass 122 = .ok (.ifCond .lt 32, 3) := by decide +kernel
theorem dX4_pass_125 : decode cX4_pass 125 = .ok (.aload_n 0, 1) := by decide +kernel
theorem dX4_pass_126 : decode cX4_pass 126 = .ok (.getfield 17, 3) := by decide +kernel
theorem dX4_pass_129 : decode cX4_pass 129 = .ok (.aload 7, 2) := by decide +kernel
theorem dX4_pass_131 : decode cX4_pass 131 = .ok (.getfield 59, 3) := by decide +kernel
theorem dX4_pass_134 : decode cX4_pass 134 = .ok (.aaload, 1) := by decide +kernel
theorem dX4_pass_135 : decode cX4_pass 135 = .ok (.iload 9, 2) := by decide +kernel
theorem dX4_pass_137 : decode cX4_pass 137 = .ok (.iaload, 1) := by decide +kernel
theorem dX4_pass_138 : decode cX4_pass 138 = .ok (.aload_n 0, 1) := by decide +kernel
theorem dX4_pass_139 : decode cX4_pass 139 = .ok (.getfield 17, 3) := by decide +kernel
theorem dX4_pass_142 : decode cX4_pass 142 = .ok (.aload 7, 2) := by decide +kernel
theorem dX4_pass_144 : decode cX4_pass 144 = .ok (.getfield 59, 3) := by decide +kernel
theorem dX4_pass_147 : decode cX4_pass 147 = .ok (.aaload, 1) := by decide +kernel
theorem dX4_pass_148 : decode cX4_pass 148 = .ok (.iload 8, 2) := by decide +kernel
theorem dX4_pass_150 : decode cX4_pass 150 = .ok (.iaload, 1) := by decide +kernel
theorem dX4_pass_151 : decode cX4_pass 151 = .ok (.if_icmp .gt 7, 3) := by decide +kernel
theorem dX4_pass_154 : decode cX4_pass 154 = .ok (.iload 9, 2) := by decide +kernel
theorem dX4_pass_156 : decode cX4_pass 156 = .ok (.istore 8, 2) := by decide +kernel
theorem dX4_pass_158 : decode cX4_pass 158 = .ok (.iinc 9 (-1), 3) := by decide +kernel
theorem dX4_pass_161 : decode cX4_pass 161 = .ok (.goto (-68), 3) := by decide +kernel
theorem dX4_pass_164 : decode cX4_pass 164 = .ok (.aload_n 2, 1) := by decide +kernel
theorem dX4_pass_165 : decode cX4_pass 165 = .ok (.aload 7, 2) := by decide +kernel
theorem dX4_pass_167 : decode cX4_pass 167 = .ok (.getfield 59, 3) := by decide +kernel
theorem dX4_pass_170 : decode cX4_pass 170 = .ok (.iaload, 1) := by decide +kernel
theorem dX4_pass_171 : decode cX4_pass 171 = .ok (.ifCond .ne 35, 3) := by decide +kernel
theorem dX4_pass_174 : decode cX4_pass 174 = .ok (.aload 7, 2) := by decide +kernel
theorem dX4_pass_176 : decode cX4_pass 176 = .ok (.getfield 41, 3) := by decide +kernel
theorem dX4_pass_179 : decode cX4_pass 179 = .ok (.ifCond .le 27, 3) := by decide +kernel
theorem dX4_pass_182 : decode cX4_pass 182 = .ok (.iload 8, 2) := by decide +kernel
theorem dX4_pass_184 : decode cX4_pass 184 = .ok (.ifCond .ge 18, 3) := by decide +kernel
theorem dX4_pass_187 : decode cX4_pass 187 = .ok (.aload 7, 2) := by decide +kernel
theorem dX4_pass_189 : decode cX4_pass 189 = .ok (.getfield 66, 3) := by decide +kernel
theorem dX4_pass_192 : decode cX4_pass 192 = .ok (.ifCond .eq 14, 3) := by decide +kernel
theorem dX4_pass_195 : decode cX4_pass 195 = .ok (.aload_n 0, 1) := by decide +kernel
theorem dX4_pass_196 : decode cX4_pass 196 = .ok (.getfield 28, 3) := by decide +kernel
theorem dX4_pass_199 : decode cX4_pass 199 = .ok (.ifCond .le 7, 3) := by decide +kernel
theorem dX4_pass_202 : decode cX4_pass 202 = .ok (.iconst 1, 1) := by decide +kernel
theorem dX4_pass_203 : decode cX4_pass 203 = .ok (.goto 4, 3) := by decide +kernel
theorem dX4_pass_206 : decode cX4_pass 206 = .ok (.iconst 0, 1) := by decide +kernel
theorem dX4_pass_207 : decode cX4_pass 207 = .ok (.istore 9, 2) := by decide +kernel
theorem dX4_pass_209 : decode cX4_pass 209 = .ok (.aload 7, 2) := by decide +kernel
theorem dX4_pass_211 : decode cX4_pass 211 = .ok (.iload 9, 2) := by decide +kernel
theorem dX4_pass_213 : decode cX4_pass 213 = .ok (.ifCond .eq 13, 3) := by decide +kernel
theorem dX4_pass_216 : decode cX4_pass 216 = .ok (.aload 7, 2) := by decide +kernel
theorem dX4_pass_218 : decode cX4_pass 218 = .ok (.getfield 44, 3) := by decide +kernel
theorem dX4_pass_221 : decode cX4_pass 221 = .ok (.iconst 1, 1) := by decide +kernel
theorem dX4_pass_222 : decode cX4_pass 222 = .ok (.iadd, 1) := by decide +kernel
theorem dX4_pass_223 : decode cX4_pass 223 = .ok (.goto 4, 3) := by decide +kernel
theorem dX4_pass_226 : decode cX4_pass 226 = .ok (.iconst 0, 1) := by decide +kernel
theorem dX4_pass_227 : decode cX4_pass 227 = .ok (.putfield 44, 3) := by decide +kernel
theorem dX4_pass_230 : decode cX4_pass 230 = .ok (.iload 9, 2) := by decide +kernel
theorem dX4_pass_232 : decode cX4_pass 232 = .ok (.ifCond .eq 36, 3) := by decide +kernel
theorem dX4_pass_235 : decode cX4_pass 235 = .ok (.aload 7, 2) := by decide +kernel
theorem dX4_pass_237 : decode cX4_pass 237 = .ok (.getfield 44, 3) := by decide +kernel
theorem dX4_pass_240 : decode cX4_pass 240 = .ok (.aload 7, 2) := by decide +kernel
theorem dX4_pass_242 : decode cX4_pass 242 = .ok (.getfield 70, 3) := by decide +kernel
theorem dX4_pass_245 : decode cX4_pass 245 = .ok (.if_icmp .lt 23, 3) := by decide +kernel
theorem dX4_pass_248 : decode cX4_pass 248 = .ok (.aload_n 0, 1) := by decide +kernel
theorem dX4_pass_249 : decode cX4_pass 249 = .ok (.aload 7, 2) := by decide +kernel
theorem dX4_pass_251 : decode cX4_pass 251 = .ok (.iload 8, 2) := by decide +kernel
theorem dX4_pass_253 : decode cX4_pass 253 = .ok (.ifCond .ge 7, 3) := by decide +kernel
theorem dX4_pass_256 : decode cX4_pass 256 = .ok (.iconst (-1), 1) := by decide +kernel
theorem dX4_pass_257 : decode cX4_pass 257 = .ok (.goto 7, 3) := by decide +kernel
theorem dX4_pass_260 : decode cX4_pass 260 = .ok (.aload_n 3, 1) := by decide +kernel
theorem dX4_pass_261 : decode cX4_pass 261 = .ok (.iload 8, 2) := by decide +kernel
theorem dX4_pass_263 : decode cX4_pass 263 = .ok (.iaload, 1) := by decide +kernel
theorem dX4_pass_264 : decode cX4_pass 264 = .ok (.invokevirtual 73, 3) := by decide +kernel
theorem dX4_pass_267 : decode cX4_pass 267 = .ok (.pop, 1) := by decide +kernel
theorem dX4_pass_268 : decode cX4_pass 268 = .ok (.iinc 6 1, 3) := by decide +kernel
theorem dX4_pass_271 : decode cX4_pass 271 = .ok (.goto (-200), 3) := by decide +kernel
theorem dX4_pass_274 : decode cX4_pass 274 = .ok (.aload_n 0, 1) := by decide +kernel
theorem dX4_pass_275 : decode cX4_pass 275 = .ok (.getfield 9, 3) := by decide +kernel
theorem dX4_pass_278 : decode cX4_pass 278 = .ok (.astore 4, 2) := by decide +kernel
theorem dX4_pass_280 : decode cX4_pass 280 = .ok (.aload 4, 2) := by decide +kernel
theorem dX4_pass_282 : decode cX4_pass 282 = .ok (.arraylength, 1) := by decide +kernel
theorem dX4_pass_283 : decode cX4_pass 283 = .ok (.istore 5, 2) := by decide +kernel
theorem dX4_pass_285 : decode cX4_pass 285 = .ok (.iconst 0, 1) := by decide +kernel
theorem dX4_pass_286 : decode cX4_pass 286 = .ok (.istore 6, 2) := by decide +kernel
theorem dX4_pass_288 : decode cX4_pass 288 = .ok (.iload 6, 2) := by decide +kernel
theorem dX4_pass_290 : decode cX4_pass 290 = .ok (.iload 5, 2) := by decide +kernel
theorem dX4_pass_292 : decode cX4_pass 292 = .ok (.if_icmp .ge 125, 3) := by decide +kernel
theorem dX4_pass_295 : decode cX4_pass 295 = .ok (.aload 4, 2) := by decide +kernel
theorem dX4_pass_297 : decode cX4_pass 297 = .ok (.iload 6, 2) := by decide +kernel
theorem dX4_pass_299 : decode cX4_pass 299 = .ok (.aaload, 1) := by decide +kernel
theorem dX4_pass_300 : decode cX4_pass 300 = .ok (.astore 7, 2) := by decide +kernel
theorem dX4_pass_302 : decode cX4_pass 302 = .ok (.aload_n 2, 1) := by decide +kernel
theorem dX4_pass_303 : decode cX4_pass 303 = .ok (.aload 7, 2) := by decide +kernel
theorem dX4_pass_305 : decode cX4_pass 305 = .ok (.getfield 59, 3) := by decide +kernel
theorem dX4_pass_308 : decode cX4_pass 308 = .ok (.iaload, 1) := by decide +kernel
theorem dX4_pass_309 : decode cX4_pass 309 = .ok (.iconst 1, 1) := by decide +kernel
theorem dX4_pass_310 : decode cX4_pass 310 = .ok (.if_icmp .ne 63, 3) := by decide +kernel
theorem dX4_pass_313 : decode cX4_pass 313 = .ok (.aload 7, 2) := by decide +kernel
theorem dX4_pass_315 : decode cX4_pass 315 = .ok (.dup, 1) := by decide +kernel
theorem dX4_pass_316 : decode cX4_pass 316 = .ok (.getfield 53, 3) := by decide +kernel
theorem dX4_pass_319 : decode cX4_pass 319 = .ok (.iconst 1, 1) := by decide +kernel
theorem dX4_pass_320 : decode cX4_pass 320 = .ok (.isub, 1) := by decide +kernel
theorem dX4_pass_321 : decode cX4_pass 321 = .ok (.putfield 53, 3) := by decide +kernel
theorem dX4_pass_324 : decode cX4_pass 324 = .ok (.aload 7, 2) := by decide +kernel
theorem dX4_pass_326 : decode cX4_pass 326 = .ok (.getfield 53, 3) := by decide +kernel
theorem dX4_pass_329 : decode cX4_pass 329 = .ok (.ifCond .ne 44, 3) := by decide +kernel
theorem dX4_pass_332 : decode cX4_pass 332 = .ok (.aload 7, 2) := by decide +kernel
theorem dX4_pass_334 : decode cX4_pass 334 = .ok (.iconst 2, 1) := by decide +kernel
theorem dX4_pass_335 : decode cX4_pass 335 = .ok (.putfield 47, 3) := by decide +kernel
theorem dX4_pass_338 : decode cX4_pass 338 = .ok (.aload 7, 2) := by decide +kernel
theorem dX4_pass_340 : decode cX4_pass 340 = .ok (.getfield 77, 3) := by decide +kernel
theorem dX4_pass_343 : decode cX4_pass 343 = .ok (.ifCond .eq 30, 3) := by decide +kernel
theorem dX4_pass_346 : decode cX4_pass 346 = .ok (.aload 7, 2) := by decide +kernel
theorem dX4_pass_348 : decode cX4_pass 348 = .ok (.getfield 56, 3) := by decide +kernel
theorem dX4_pass_351 : decode cX4_pass 351 = .ok (.ifCond .lt 22, 3) := by decide +kernel
theorem dX4_pass_354 : decode cX4_pass 354 = .ok (.aload_n 0, 1) := by decide +kernel
theorem dX4_pass_355 : decode cX4_pass 355 = .ok (.getfield 9, 3) := by decide +kernel
theorem dX4_pass_358 : decode cX4_pass 358 = .ok (.aload 7, 2) := by decide +kernel
theorem dX4_pass_360 : decode cX4_pass 360 = .ok (.getfield 56, 3) := by decide +kernel
theorem dX4_pass_363 : decode cX4_pass 363 = .ok (.aaload, 1) := by decide +kernel
theorem dX4_pass_364 : decode cX4_pass 364 = .ok (.dup, 1) := by decide +kernel
theorem dX4_pass_365 : decode cX4_pass 365 = .ok (.getfield 80, 3) := by decide +kernel
theorem dX4_pass_368 : decode cX4_pass 368 = .ok (.iconst 1, 1) := by decide +kernel
theorem dX4_pass_369 : decode cX4_pass 369 = .ok (.iadd, 1) := by decide +kernel
theorem dX4_pass_370 : decode cX4_pass 370 = .ok (.putfield 80, 3) := by decide +kernel
theorem dX4_pass_373 : decode cX4_pass 373 = .ok (.aload_n 2, 1) := by decide +kernel
theorem dX4_pass_374 : decode cX4_pass 374 = .ok (.aload 7, 2) := by decide +kernel
theorem dX4_pass_376 : decode cX4_pass 376 = .ok (.getfield 59, 3) := by decide +kernel
theorem dX4_pass_379 : decode cX4_pass 379 = .ok (.iaload, 1) := by decide +kernel
theorem dX4_pass_380 : decode cX4_pass 380 = .ok (.iconst 2, 1) := by decide +kernel
theorem dX4_pass_381 : decode cX4_pass 381 = .ok (.if_icmp .ne 30, 3) := by decide +kernel
theorem dX4_pass_384 : decode cX4_pass 384 = .ok (.aload 7, 2) := by decide +kernel
theorem dX4_pass_386 : decode cX4_pass 386 = .ok (.getfield 41, 3) := by decide +kernel
theorem dX4_pass_389 : decode cX4_pass 389 = .ok (.ifCond .ne 11, 3) := by decide +kernel
theorem dX4_pass_392 : decode cX4_pass 392 = .ok (.aload 7, 2) := by decide +kernel
theorem dX4_pass_394 : decode cX4_pass 394 = .ok (.invokevirtual 83, 3) := by decide +kernel
theorem dX4_pass_397 : decode cX4_pass 397 = .ok (.goto 14, 3) := by decide +kernel
theorem dX4_pass_400 : decode cX4_pass 400 = .ok (.aload 7, 2) := by decide +kernel
theorem dX4_pass_402 : decode cX4_pass 402 = .ok (.dup, 1) := by decide +kernel
theorem dX4_pass_403 : decode cX4_pass 403 = .ok (.getfield 41, 3) := by decide +kernel
theorem dX4_pass_406 : decode cX4_pass 406 = .ok (.iconst 1, 1) := by decide +kernel
theorem dX4_pass_407 : decode cX4_pass 407 = .ok (.isub, 1) := by decide +kernel
theorem dX4_pass_408 : decode cX4_pass 408 = .ok (.putfield 41, 3) := by decide +kernel
theorem dX4_pass_411 : decode cX4_pass 411 = .ok (.iinc 6 1, 3) := by decide +kernel
theorem dX4_pass_414 : decode cX4_pass 414 = .ok (.goto (-126), 3) := by decide +kernel
theorem dX4_pass_417 : decode cX4_pass 417 = .ok (.aload_n 0, 1) := by decide +kernel
theorem dX4_pass_418 : decode cX4_pass 418 = .ok (.getfield 28, 3) := by decide +kernel
theorem dX4_pass_421 : decode cX4_pass 421 = .ok (.ifCond .le 13, 3) := by decide +kernel
theorem dX4_pass_424 : decode cX4_pass 424 = .ok (.aload_n 0, 1) := by decide +kernel
theorem dX4_pass_425 : decode cX4_pass 425 = .ok (.dup, 1) := by decide +kernel
theorem dX4_pass_426 : decode cX4_pass 426 = .ok (.getfield 28, 3) := by decide +kernel
theorem dX4_pass_429 : decode cX4_pass 429 = .ok (.iconst 1, 1) := by decide +kernel
theorem dX4_pass_430 : decode cX4_pass 430 = .ok (.isub, 1) := by decide +kernel
theorem dX4_pass_431 : decode cX4_pass 431 = .ok (.putfield 28, 3) := by decide +kernel
theorem dX4_pass_434 : decode cX4_pass 434 = .ok (.aload_n 0, 1) := by decide +kernel
theorem dX4_pass_435 : decode cX4_pass 435 = .ok (.dup, 1) := by decide +kernel
theorem dX4_pass_436 : decode cX4_pass 436 = .ok (.getfield 21, 3) := by decide +kernel
theorem dX4_pass_439 : decode cX4_pass 439 = .ok (.iconst 1, 1) := by decide +kernel
theorem dX4_pass_440 : decode cX4_pass 440 = .ok (.iadd, 1) := by decide +kernel
theorem dX4_pass_441 : decode cX4_pass 441 = .ok (.putfield 21, 3) := by decide +kernel
theorem dX4_pass_444 : decode cX4_pass 444 = .ok (.return_, 1) := by decide +kernel
theorem dX4_burning_0 : decode cX4_burning 0 = .ok (.iconst 0, 1) := by decide +kernel
theorem dX4_burning_1 : decode cX4_burning 1 = .ok (.istore_n 1, 1) := by decide +kernel
theorem dX4_burning_2 : decode cX4_burning 2 = .ok (.aload_n 0, 1) := by decide +kernel
theorem dX4_burning_3 : decode cX4_burning 3 = .ok (.getfield 9, 3) := by decide +kernel
theorem dX4_burning_6 : decode cX4_burning 6 = .ok (.astore_n 2, 1) := by decide +kernel
theorem dX4_burning_7 : decode cX4_burning 7 = .ok (.aload_n 2, 1) := by decide +kernel
theorem dX4_burning_8 : decode cX4_burning 8 = .ok (.arraylength, 1) := by decide +kernel
theorem dX4_burning_9 : decode cX4_burning 9 = .ok (.istore_n 3, 1) := by decide +kernel
theorem dX4_burning_10 : decode cX4_burning 10 = .ok (.iconst 0, 1) := by decide +kernel
theorem dX4_burning_11 : decode cX4_burning 11 = .ok (.istore 4, 2) := by decide +kernel
theorem dX4_burning_13 : decode cX4_burning 13 = .ok (.iload 4, 2) := by decide +kernel
theorem dX4_burning_15 : decode cX4_burning 15 = .ok (.iload_n 3, 1) := by decide +kernel
theorem dX4_burning_16 : decode cX4_burning 16 = .ok (.if_icmp .ge 32, 3) := by decide +kernel
theorem dX4_burning_19 : decode cX4_burning 19 = .ok (.aload_n 2, 1) := by decide +kernel
theorem dX4_burning_20 : decode cX4_burning 20 = .ok (.iload 4, 2) := by decide +kernel
theorem dX4_burning_22 : decode cX4_burning 22 = .ok (.aaload, 1) := by decide +kernel
theorem dX4_burning_23 : decode cX4_burning 23 = .ok (.astore 5, 2) := by decide +kernel
theorem dX4_burning_25 : decode cX4_burning 25 = .ok (.iload_n 1, 1) := by decide +kernel
theorem dX4_burning_26 : decode cX4_burning 26 = .ok (.aload 5, 2) := by decide +kernel
theorem dX4_burning_28 : decode cX4_burning 28 = .ok (.getfield 47, 3) := by decide +kernel
theorem dX4_burning_31 : decode cX4_burning 31 = .ok (.iconst 2, 1) := by decide +kernel
theorem dX4_burning_32 : decode cX4_burning 32 = .ok (.if_icmp .ne 7, 3) := by decide +kernel
theorem dX4_burning_35 : decode cX4_burning 35 = .ok (.iconst 1, 1) := by decide +kernel
theorem dX4_burning_36 : decode cX4_burning 36 = .ok (.goto 4, 3) := by decide +kernel
theorem dX4_burning_39 : decode cX4_burning 39 = .ok (.iconst 0, 1) := by decide +kernel
theorem dX4_burning_40 : decode cX4_burning 40 = .ok (.iadd, 1) := by decide +kernel
theorem dX4_burning_41 : decode cX4_burning 41 = .ok (.istore_n 1, 1) := by decide +kernel
theorem dX4_burning_42 : decode cX4_burning 42 = .ok (.iinc 4 1, 3) := by decide +kernel
theorem dX4_burning_45 : decode cX4_burning 45 = .ok (.goto (-32), 3) := by decide +kernel
theorem dX4_burning_48 : decode cX4_burning 48 = .ok (.iload_n 1, 1) := by decide +kernel
theorem dX4_burning_49 : decode cX4_burning 49 = .ok (.ireturn, 1) := by decide +kernel
set_option maxRecDepth 20000 in
theorem ggX4_isSame_X2_hills : GoodIn wsX4_isSame wsX2_hills := goodIn_r _ [22, 23, 24, 201, 202, 203, 204, 205, 206, 207, 208, 209, 210, 211] (by decide +kernel) (by decide +kernel)
set_option maxRecDepth 20000 in
theorem gX4_isSame_X2_hills : GoodIn wsX4_isSame (wsV RX4 92 RX2 yX2_hills wsX2_hills) := goodIn_app (goodIn_of _ (by decide +kernel)) ggX4_isSame_X2_hills
set_option maxRecDepth 20000 in
theorem ggX4_isSame_X2_minute : GoodIn wsX4_isSame wsX2_minute := goodIn_r _ [28, 23, 29, 201, 202, 203, 204, 205, 206, 207, 208, 209, 210, 211] (by decide +kernel) (by decide +kernel)
set_option maxRecDepth 20000 in
theorem gX4_isSame_X2_minute : GoodIn wsX4_isSame (wsV RX4 97 RX2 yX2_minute wsX2_minute) := goodIn_app (goodIn_of _ (by decide +kernel)) ggX4_isSame_X2_minute
set_option maxRecDepth 20000 in
theorem ggX4_isSame_X2_haze : GoodIn wsX4_isSame wsX2_haze := goodIn_r _ [33, 23, 34, 201, 202, 203, 204, 205, 206, 207, 208, 209, 210, 211] (by decide +kernel) (by decide +kernel)
set_option maxRecDepth 20000 in
theorem gX4_isSame_X2_haze : GoodIn wsX4_isSame (wsV RX4 99 RX2 yX2_haze wsX2_haze) := goodIn_app (goodIn_of _ (by decide +kernel)) ggX4_isSame_X2_haze
set_option maxRecDepth 20000 in
theorem ggX4_isSame_X2_glowLeft : GoodIn wsX4_isSame wsX2_glowLeft := goodIn_r _ [38, 23, 39, 201, 202, 203, 204, 205, 206, 207, 208, 209, 210, 211] (by decide +kernel) (by decide +kernel)
set_option maxRecDepth 20000 in
theorem gX4_isSame_X2_glowLeft : GoodIn wsX4_isSame (wsV RX4 101 RX2 yX2_glowLeft wsX2_glowLeft) := goodIn_app (goodIn_of _ (by decide +kernel)) ggX4_isSame_X2_glowLeft
set_option maxRecDepth 20000 in
theorem ggX4_isSame_X2_burningHills : GoodIn wsX4_isSame wsX2_burningHills := goodIn_r _ [43, 23, 44, 45, 46, 47, 48, 49, 50, 51, 52, 53, 54, 55, 56, 201, 202, 203, 204, 205, 206, 207, 208, 209, 210, 211, 212, 213, 214, 215, 216, 217, 218, 219, 220, 221, 222] (by decide +kernel) (by decide +kernel)
set_option maxRecDepth 20000 in
theorem gX4_isSame_X2_burningHills : GoodIn wsX4_isSame (wsV RX4 104 RX2 yX2_burningHills wsX2_burningHills) := goodIn_app (goodIn_of _ (by decide +kernel)) ggX4_isSame_X2_burningHills
set_option maxRecDepth 20000 in
theorem ggX4_isSame_X4_burning : GoodIn wsX4_isSame wsX4_burning := goodIn_r _ [61, 1, 12, 183, 184, 185, 186, 187, 188, 189, 190, 191, 192, 193, 194, 195, 196, 197, 198, 199, 200] (by decide +kernel) (by decide +kernel)
set_option maxRecDepth 20000 in
theorem gX4_isSame_X4_burning : GoodIn wsX4_isSame (wsV RX4 107 RX4 yX4_burning wsX4_burning) := goodIn_app (goodIn_of _ (by decide +kernel)) ggX4_isSame_X4_burning
set_option maxRecDepth 20000 in
theorem ggX4_isSame_X2_timesLit : GoodIn wsX4_isSame wsX2_timesLit := goodIn_r _ [65, 23, 66, 201, 202, 203, 204, 205, 206, 207, 208, 209, 210, 211] (by decide +kernel) (by decide +kernel)
set_option maxRecDepth 20000 in
theorem gX4_isSame_X2_timesLit : GoodIn wsX4_isSame (wsV RX4 110 RX2 yX2_timesLit wsX2_timesLit) := goodIn_app (goodIn_of _ (by decide +kernel)) ggX4_isSame_X2_timesLit
set_option maxRecDepth 20000 in
theorem ggX4_isSame_X2_timesMistaken : GoodIn wsX4_isSame wsX2_timesMistaken := goodIn_r _ [70, 23, 71, 201, 202, 203, 204, 205, 206, 207, 208, 209, 210, 211] (by decide +kernel) (by decide +kernel)
set_option maxRecDepth 20000 in
theorem gX4_isSame_X2_timesMistaken : GoodIn wsX4_isSame (wsV RX4 113 RX2 yX2_timesMistaken wsX2_timesMistaken) := goodIn_app (goodIn_of _ (by decide +kernel)) ggX4_isSame_X2_timesMistaken
set_option maxRecDepth 20000 in
theorem ggX4_isSame_X2_woodOf : GoodIn wsX4_isSame wsX2_woodOf := goodIn_ca (goodIn_r _ [75, 76, 77, 78, 79, 21, 80, 23, 81, 82, 83, 84, 85, 86, 24, 87, 52, 53, 47, 54, 55, 56, 212, 213, 214, 215, 216, 217, 218, 219, 220, 221, 222, 201, 202, 203, 204, 205, 206, 207, 208, 209, 210, 211] (by decide +kernel) (by decide +kernel)) (goodIn_sub (fun _ h => List.mem_cons_of_mem _ (List.mem_append_left _ (List.mem_append_right _ h))) (by decide +kernel))
set_option maxRecDepth 20000 in
theorem gX4_isSame_X2_woodOf : GoodIn wsX4_isSame (wsV RX4 116 RX2 yX2_woodOf wsX2_woodOf) := goodIn_app (goodIn_of _ (by decide +kernel)) ggX4_isSame_X2_woodOf
set_option maxRecDepth 20000 in
theorem ggX4_isSame_X2_dampOf : GoodIn wsX4_isSame wsX2_dampOf := goodIn_ca (goodIn_r _ [91, 92, 77, 78, 79, 21, 80, 23, 81, 82, 83, 84, 85, 86, 24, 87, 52, 53, 47, 54, 55, 56, 212, 213, 214, 215, 216, 217, 218, 219, 220, 221, 222, 201, 202, 203, 204, 205, 206, 207, 208, 209, 210, 211] (by decide +kernel) (by decide +kernel)) (goodIn_sub (fun _ h => List.mem_cons_of_mem _ (List.mem_append_left _ (List.mem_append_right _ h))) (by decide +kernel))
set_option maxRecDepth 20000 in
theorem gX4_isSame_X2_dampOf : GoodIn wsX4_isSame (wsV RX4 120 RX2 yX2_dampOf wsX2_dampOf) := goodIn_app (goodIn_of _ (by decide +kernel)) ggX4_isSame_X2_dampOf
set_option maxRecDepth 20000 in
theorem ggX4_isSame_X2_watchOf : GoodIn wsX4_isSame wsX2_watchOf := goodIn_ca (goodIn_r _ [96, 97, 77, 78, 79, 21, 80, 23, 81, 82, 83, 84, 85, 86, 24, 87, 52, 53, 47, 54, 55, 56, 212, 213, 214, 215, 216, 217, 218, 219, 220, 221, 222, 201, 202, 203, 204, 205, 206, 207, 208, 209, 210, 211] (by decide +kernel) (by decide +kernel)) (goodIn_sub (fun _ h => List.mem_cons_of_mem _ (List.mem_append_left _ (List.mem_append_right _ h))) (by decide +kernel))
set_option maxRecDepth 20000 in
theorem gX4_isSame_X2_watchOf : GoodIn wsX4_isSame (wsV RX4 123 RX2 yX2_watchOf wsX2_watchOf) := goodIn_app (goodIn_of _ (by decide +kernel)) ggX4_isSame_X2_watchOf
set_option maxRecDepth 20000 in
theorem ggX4_isSame_X2_looksEast : GoodIn wsX4_isSame wsX2_looksEast := goodIn_ca (goodIn_r _ [101, 102, 77, 78, 79, 21, 80, 23, 81, 82, 83, 84, 85, 86, 24, 87, 52, 53, 47, 54, 55, 56, 212, 213, 214, 215, 216, 217, 218, 219, 220, 221, 222, 201, 202, 203, 204, 205, 206, 207, 208, 209, 210, 211] (by decide +kernel) (by decide +kernel)) (goodIn_sub (fun _ h => List.mem_cons_of_mem _ (List.mem_append_left _ (List.mem_append_right _ h))) (by decide +kernel))
set_option maxRecDepth 20000 in
theorem gX4_isSame_X2_looksEast : GoodIn wsX4_isSame (wsV RX4 126 RX2 yX2_looksEast wsX2_looksEast) := goodIn_app (goodIn_of _ (by decide +kernel)) ggX4_isSame_X2_looksEast
set_option maxRecDepth 20000 in
theorem ggX4_isSame_X2_isPost : GoodIn wsX4_isSame wsX2_isPost := goodIn_ca (goodIn_r _ [106, 107, 77, 78, 79, 21, 80, 23, 81, 82, 83, 84, 85, 86, 24, 87, 52, 53, 47, 54, 55, 56, 212, 213, 214, 215, 216, 217, 218, 219, 220, 221, 222, 201, 202, 203, 204, 205, 206, 207, 208, 209, 210, 211] (by decide +kernel) (by decide +kernel)) (goodIn_sub (fun _ h => List.mem_cons_of_mem _ (List.mem_append_left _ (List.mem_append_right _ h))) (by decide +kernel))
set_option maxRecDepth 20000 in
theorem gX4_isSame_X2_isPost : GoodIn wsX4_isSame (wsV RX4 130 RX2 yX2_isPost wsX2_isPost) := goodIn_app (goodIn_of _ (by decide +kernel)) ggX4_isSame_X2_isPost
set_option maxRecDepth 20000 in
theorem ggX4_isSame_X2_isDark : GoodIn wsX4_isSame wsX2_isDark := goodIn_ca (goodIn_r _ [111, 112, 77, 78, 79, 21, 80, 23, 81, 82, 83, 84, 85, 86, 24, 87, 52, 53, 47, 54, 55, 56, 212, 213, 214, 215, 216, 217, 218, 219, 220, 221, 222, 201, 202, 203, 204, 205, 206, 207, 208, 209, 210, 211] (by decide +kernel) (by decide +kernel)) (goodIn_sub (fun _ h => List.mem_cons_of_mem _ (List.mem_append_left _ (List.mem_append_right _ h))) (by decide +kernel))
set_option maxRecDepth 20000 in
theorem gX4_isSame_X2_isDark : GoodIn wsX4_isSame (wsV RX4 133 RX2 yX2_isDark wsX2_isDark) := goodIn_app (goodIn_of _ (by decide +kernel)) ggX4_isSame_X2_isDark
set_option maxRecDepth 20000 in
theorem ggX4_isSame_X2_isBurning : GoodIn wsX4_isSame wsX2_isBurning := goodIn_ca (goodIn_r _ [116, 112, 77, 78, 79, 21, 80, 23, 81, 82, 83, 84, 85, 86, 24, 87, 52, 53, 47, 54, 55, 56, 212, 213, 214, 215, 216, 217, 218, 219, 220, 221, 222, 201, 202, 203, 204, 205, 206, 207, 208, 209, 210, 211] (by decide +kernel) (by decide +kernel)) (goodIn_sub (fun _ h => List.mem_cons_of_mem _ (List.mem_append_left _ (List.mem_append_right _ h))) (by decide +kernel))
set_option maxRecDepth 20000 in
theorem gX4_isSame_X2_isBurning : GoodIn wsX4_isSame (wsV RX4 136 RX2 yX2_isBurning wsX2_isBurning) := goodIn_app (goodIn_of _ (by decide +kernel)) ggX4_isSame_X2_isBurning
set_option maxRecDepth 20000 in
theorem ggX4_isSame_X2_minutesToBurn : GoodIn wsX4_isSame wsX2_minutesToBurn := goodIn_ca (goodIn_r _ [120, 121, 77, 78, 79, 21, 80, 23, 81, 82, 83, 84, 85, 86, 24, 87, 52, 53, 47, 54, 55, 56, 212, 213, 214, 215, 216, 217, 218, 219, 220, 221, 222, 201, 202, 203, 204, 205, 206, 207, 208, 209, 210, 211] (by decide +kernel) (by decide +kernel)) (goodIn_sub (fun _ h => List.mem_cons_of_mem _ (List.mem_append_left _ (List.mem_append_right _ h))) (by decide +kernel))
set_option maxRecDepth 20000 in
theorem gX4_isSame_X2_minutesToBurn : GoodIn wsX4_isSame (wsV RX4 139 RX2 yX2_minutesToBurn wsX2_minutesToBurn) := goodIn_app (goodIn_of _ (by decide +kernel)) ggX4_isSame_X2_minutesToBurn
set_option maxRecDepth 20000 in
theorem ggX4_isSame_X2_lookingFor : GoodIn wsX4_isSame wsX2_lookingFor := goodIn_ca (goodIn_r _ [125, 126, 77, 78, 79, 21, 80, 23, 81, 82, 83, 84, 85, 86, 24, 87, 52, 53, 47, 54, 55, 56, 212, 213, 214, 215, 216, 217, 218, 219, 220, 221, 222, 201, 202, 203, 204, 205, 206, 207, 208, 209, 210, 211] (by decide +kernel) (by decide +kernel)) (goodIn_sub (fun _ h => List.mem_cons_of_mem _ (List.mem_append_left _ (List.mem_append_right _ h))) (by decide +kernel))
set_option maxRecDepth 20000 in
theorem gX4_isSame_X2_lookingFor : GoodIn wsX4_isSame (wsV RX4 142 RX2 yX2_lookingFor wsX2_lookingFor) := goodIn_app (goodIn_of _ (by decide +kernel)) ggX4_isSame_X2_lookingFor
set_option maxRecDepth 20000 in
theorem ggX4_isSame_X2_sourceOf : GoodIn wsX4_isSame wsX2_sourceOf := goodIn_ca (goodIn_ca (goodIn_r _ [130, 131, 132, 133, 134, 21, 135, 136, 137, 112, 77, 78, 79, 80, 23, 81, 82, 83, 84, 85, 86, 24, 87, 52, 53, 47, 54, 55, 56, 212, 213, 214, 215, 216, 217, 218, 219, 220, 221, 222, 201, 202, 203, 204, 205, 206, 207, 208, 209, 210, 211] (by decide +kernel) (by decide +kernel)) (goodIn_sub (fun _ h => List.mem_cons_of_mem _ (List.mem_append_right _ h)) (by decide +kernel))) (goodIn_sub (fun _ h => List.mem_cons_of_mem _ (List.mem_append_left _ (List.mem_append_right _ h))) (by decide +kernel))
set_option maxRecDepth 20000 in
theorem gX4_isSame_X2_sourceOf : GoodIn wsX4_isSame (wsV RX4 145 RX2 yX2_sourceOf wsX2_sourceOf) := goodIn_app (goodIn_of _ (by decide +kernel)) ggX4_isSame_X2_sourceOf
set_option maxRecDepth 20000 in
theorem ggX4_isSame_X2_isMistaken : GoodIn wsX4_isSame wsX2_isMistaken := goodIn_ca (goodIn_r _ [141, 131, 77, 78, 79, 21, 80, 23, 81, 82, 83, 84, 85, 86, 24, 87, 52, 53, 47, 54, 55, 56, 212, 213, 214, 215, 216, 217, 218, 219, 220, 221, 222, 201, 202, 203, 204, 205, 206, 207, 208, 209, 210, 211] (by decide +kernel) (by decide +kernel)) (goodIn_sub (fun _ h => List.mem_cons_of_mem _ (List.mem_append_left _ (List.mem_append_right _ h))) (by decide +kernel))
set_option maxRecDepth 20000 in
theorem gX4_isSame_X2_isMistaken : GoodIn wsX4_isSame (wsV RX4 148 RX2 yX2_isMistaken wsX2_isMistaken) := goodIn_app (goodIn_of _ (by decide +kernel)) ggX4_isSame_X2_isMistaken
set_option maxRecDepth 20000 in
theorem ggX4_isSame_X2_answersTo : GoodIn wsX4_isSame wsX2_answersTo := goodIn_ca (goodIn_r _ [145, 146, 77, 78, 79, 21, 80, 23, 81, 82, 83, 84, 85, 86, 24, 87, 52, 53, 47, 54, 55, 56, 212, 213, 214, 215, 216, 217, 218, 219, 220, 221, 222, 201, 202, 203, 204, 205, 206, 207, 208, 209, 210, 211] (by decide +kernel) (by decide +kernel)) (goodIn_sub (fun _ h => List.mem_cons_of_mem _ (List.mem_append_left _ (List.mem_append_right _ h))) (by decide +kernel))
set_option maxRecDepth 20000 in
theorem gX4_isSame_X2_answersTo : GoodIn wsX4_isSame (wsV RX4 151 RX2 yX2_answersTo wsX2_answersTo) := goodIn_app (goodIn_of _ (by decide +kernel)) ggX4_isSame_X2_answersTo
set_option maxRecDepth 20000 in
theorem ggX4_isSame_X2_milesBetween : GoodIn wsX4_isSame wsX2_milesBetween := goodIn_ca (goodIn_r _ [150, 23, 81, 82, 83, 21, 84, 85, 86, 24, 151, 152, 153, 47, 154, 155, 201, 202, 203, 204, 205, 206, 207, 208, 209, 210, 211] (by decide +kernel) (by decide +kernel)) (goodIn_sub (fun _ h => List.mem_cons_of_mem _ (List.mem_append_left _ (List.mem_append_right _ h))) (by decide +kernel))
set_option maxRecDepth 20000 in
theorem gX4_isSame_X2_milesBetween : GoodIn wsX4_isSame (wsV RX4 154 RX2 yX2_milesBetween wsX2_milesBetween) := goodIn_app (goodIn_of _ (by decide +kernel)) ggX4_isSame_X2_milesBetween
set_option maxRecDepth 20000 in
theorem ggX4_isSame_X2_canSee : GoodIn wsX4_isSame wsX2_canSee := goodIn_ca (goodIn_r _ [159, 23, 81, 82, 83, 21, 84, 85, 86, 24, 160, 161, 162, 47, 163, 164, 152, 153, 154, 155, 165, 166, 167, 168, 169, 201, 202, 203, 204, 205, 206, 207, 208, 209, 210, 211] (by decide +kernel) (by decide +kernel)) (goodIn_sub (fun _ h => List.mem_cons_of_mem _ (List.mem_append_left _ (List.mem_append_right _ h))) (by decide +kernel))
set_option maxRecDepth 20000 in
theorem gX4_isSame_X2_canSee : GoodIn wsX4_isSame (wsV RX4 158 RX2 yX2_canSee wsX2_canSee) := goodIn_app (goodIn_of _ (by decide +kernel)) ggX4_isSame_X2_canSee
set_option maxRecDepth 20000 in
theorem ggX4_isSame_X4_sees : GoodIn wsX4_isSame wsX4_sees := goodIn_r _ [173, 17, 3, 183, 184, 185, 186, 187, 188, 189] (by decide +kernel) (by decide +kernel)
set_option maxRecDepth 20000 in
theorem gX4_isSame_X4_sees : GoodIn wsX4_isSame (wsV RX4 62 RX4 yX4_sees wsX4_sees) := goodIn_app (goodIn_of _ (by decide +kernel)) ggX4_isSame_X4_sees
set_option maxRecDepth 20000 in
theorem ggX4_isSame_X2_meanWood : GoodIn wsX4_isSame wsX2_meanWood := goodIn_r _ [177, 23, 24, 178, 179, 180, 47, 181, 49, 182, 51, 52, 53, 54, 55, 56, 201, 202, 203, 204, 205, 206, 207, 208, 209, 210, 211, 212, 213, 214, 215, 216, 217, 218, 219, 220, 221, 222] (by decide +kernel) (by decide +kernel)
set_option maxRecDepth 20000 in
theorem gX4_isSame_X2_meanWood : GoodIn wsX4_isSame (wsV RX4 161 RX2 yX2_meanWood wsX2_meanWood) := goodIn_app (goodIn_of _ (by decide +kernel)) ggX4_isSame_X2_meanWood
theorem dX4_isSame_0 : decode cX4_isSame 0 = .ok (.aload_n 0, 1) := by decide +kernel
theorem dX4_isSame_1 : decode cX4_isSame 1 = .ok (.getfield 9, 3) := by decide +kernel
theorem dX4_isSame_4 : decode cX4_isSame 4 = .ok (.arraylength, 1) := by decide +kernel
theorem dX4_isSame_5 : decode cX4_isSame 5 = .ok (.istore_n 2, 1) := by decide +kernel
theorem dX4_isSame_6 : decode cX4_isSame 6 = .ok (.aload_n 1, 1) := by decide +kernel
theorem dX4_isSame_7 : decode cX4_isSame 7 = .ok (.invokevirtual 92, 3) := by decide +kernel
theorem dX4_isSame_10 : decode cX4_isSame 10 = .ok (.iload_n 2, 1) := by decide +kernel
theorem dX4_isSame_11 : decode cX4_isSame 11 = .ok (.if_icmp .ne 69, 3) := by decide +kernel
theorem dX4_isSame_14 : decode cX4_isSame 14 = .ok (.aload_n 1, 1) := by decide +kernel
theorem dX4_isSame_15 : decode cX4_isSame 15 = .ok (.invokevirtual 97, 3) := by decide +kernel
theorem dX4_isSame_18 : decode cX4_isSame 18 = .ok (.aload_n 0, 1) := by decide +kernel
theorem dX4_isSame_19 : decode cX4_isSame 19 = .ok (.getfield 21, 3) := by decide +kernel
theorem dX4_isSame_22 : decode cX4_isSame 22 = .ok (.if_icmp .ne 58, 3) := by decide +kernel
theorem dX4_isSame_25 : decode cX4_isSame 25 = .ok (.aload_n 1, 1) := by decide +kernel
theorem dX4_isSame_26 : decode cX4_isSame 26 = .ok (.invokevirtual 99, 3) := by decide +kernel
theorem dX4_isSame_29 : decode cX4_isSame 29 = .ok (.aload_n 0, 1) := by decide +kernel
theorem dX4_isSame_30 : decode cX4_isSame 30 = .ok (.getfield 25, 3) := by decide +kernel
theorem dX4_isSame_33 : decode cX4_isSame 33 = .ok (.if_icmp .ne 47, 3) := by decide +kernel
theorem dX4_isSame_36 : decode cX4_isSame 36 = .ok (.aload_n 1, 1) := by decide +kernel
theorem dX4_isSame_37 : decode cX4_isSame 37 = .ok (.invokevirtual 101, 3) := by decide +kernel
theorem dX4_isSame_40 : decode cX4_isSame 40 = .ok (.aload_n 0, 1) := by decide +kernel
theorem dX4_isSame_41 : decode cX4_isSame 41 = .ok (.getfield 28, 3) := by decide +kernel
theorem dX4_isSame_44 : decode cX4_isSame 44 = .ok (.if_icmp .ne 36, 3) := by decide +kernel
theorem dX4_isSame_47 : decode cX4_isSame 47 = .ok (.aload_n 1, 1) := by decide +kernel
theorem dX4_isSame_48 : decode cX4_isSame 48 = .ok (.invokevirtual 104, 3) := by decide +kernel
theorem dX4_isSame_51 : decode cX4_isSame 51 = .ok (.aload_n 0, 1) := by decide +kernel
theorem dX4_isSame_52 : decode cX4_isSame 52 = .ok (.invokevirtual 107, 3) := by decide +kernel
theorem dX4_isSame_55 : decode cX4_isSame 55 = .ok (.if_icmp .ne 25, 3) := by decide +kernel
theorem dX4_isSame_58 : decode cX4_isSame 58 = .ok (.aload_n 1, 1) := by decide +kernel
theorem dX4_isSame_59 : decode cX4_isSame 59 = .ok (.invokevirtual 110, 3) := by decide +kernel
theorem dX4_isSame_62 : decode cX4_isSame 62 = .ok (.aload_n 0, 1) := by decide +kernel
theorem dX4_isSame_63 : decode cX4_isSame 63 = .ok (.getfield 31, 3) := by decide +kernel
theorem dX4_isSame_66 : decode cX4_isSame 66 = .ok (.if_icmp .ne 14, 3) := by decide +kernel
theorem dX4_isSame_69 : decode cX4_isSame 69 = .ok (.aload_n 1, 1) := by decide +kernel
theorem dX4_isSame_70 : decode cX4_isSame 70 = .ok (.invokevirtual 113, 3) := by decide +kernel
theorem dX4_isSame_73 : decode cX4_isSame 73 = .ok (.aload_n 0, 1) := by decide +kernel
theorem dX4_isSame_74 : decode cX4_isSame 74 = .ok (.getfield 34, 3) := by decide +kernel
theorem dX4_isSame_77 : decode cX4_isSame 77 = .ok (.if_icmp .eq 5, 3) := by decide +kernel
theorem dX4_isSame_80 : decode cX4_isSame 80 = .ok (.iconst 0, 1) := by decide +kernel
theorem dX4_isSame_81 : decode cX4_isSame 81 = .ok (.ireturn, 1) := by decide +kernel
theorem dX4_isSame_82 : decode cX4_isSame 82 = .ok (.iconst 0, 1) := by decide +kernel
theorem dX4_isSame_83 : decode cX4_isSame 83 = .ok (.istore_n 3, 1) := by decide +kernel
theorem dX4_isSame_84 : decode cX4_isSame 84 = .ok (.iconst 0, 1) := by decide +kernel
theorem dX4_isSame_85 : decode cX4_isSame 85 = .ok (.istore 4, 2) := by decide +kernel
theorem dX4_isSame_87 : decode cX4_isSame 87 = .ok (.iload 4, 2) := by decide +kernel
theorem dX4_isSame_89 : decode cX4_isSame 89 = .ok (.iload_n 2, 1) := by decide +kernel
theorem dX4_isSame_90 : decode cX4_isSame 90 = .ok (.if_icmp .ge 294, 3) := by decide +kernel
theorem dX4_isSame_93 : decode cX4_isSame 93 = .ok (.aload_n 0, 1) := by decide +kernel
theorem dX4_isSame_94 : decode cX4_isSame 94 = .ok (.getfield 9, 3) := by decide +kernel
theorem dX4_isSame_97 : decode cX4_isSame 97 = .ok (.iload 4, 2) := by decide +kernel
theorem dX4_isSame_99 : decode cX4_isSame 99 = .ok (.aaload, 1) := by decide +kernel
theorem dX4_isSame_100 : decode cX4_isSame 100 = .ok (.astore 5, 2) := by decide +kernel
theorem dX4_isSame_102 : decode cX4_isSame 102 = .ok (.aload_n 1, 1) := by decide +kernel
theorem dX4_isSame_103 : decode cX4_isSame 103 = .ok (.iload 4, 2) := by decide +kernel
theorem dX4_isSame_105 : decode cX4_isSame 105 = .ok (.invokevirtual 116, 3) := by decide +kernel
theorem dX4_isSame_108 : decode cX4_isSame 108 = .ok (.aload 5, 2) := by decide +kernel
theorem dX4_isSame_110 : decode cX4_isSame 110 = .ok (.getfield 41, 3) := by decide +kernel
theorem dX4_isSame_113 : decode cX4_isSame 113 = .ok (.if_icmp .ne 198, 3) := by decide +kernel
theorem dX4_isSame_116 : decode cX4_isSame 116 = .ok (.aload_n 1, 1) := by decide +kernel
theorem dX4_isSame_117 : decode cX4_isSame 117 = .ok (.iload 4, 2) := by decide +kernel
theorem dX4_isSame_119 : decode cX4_isSame 119 = .ok (.invokevirtual 120, 3) := by decide +kernel
theorem dX4_isSame_122 : decode cX4_isSame 122 = .ok (.aload 5, 2) := by decide +kernel
theorem dX4_isSame_124 : decode cX4_isSame 124 = .ok (.getfield 50, 3) := by decide +kernel
theorem dX4_isSame_127 : decode cX4_isSame 127 = .ok (.if_icmp .ne 184, 3) := by decide +kernel
theorem dX4_isSame_130 : decode cX4_isSame 130 = .ok (.aload_n 1, 1) := by decide +kernel
theorem dX4_isSame_131 : decode cX4_isSame 131 = .ok (.iload 4, 2) := by decide +kernel
theorem dX4_isSame_133 : decode cX4_isSame 133 = .ok (.invokevirtual 123, 3) := by decide +kernel
theorem dX4_isSame_136 : decode cX4_isSame 136 = .ok (.aload 5, 2) := by decide +kernel
theorem dX4_isSame_138 : decode cX4_isSame 138 = .ok (.getfield 70, 3) := by decide +kernel
theorem dX4_isSame_141 : decode cX4_isSame 141 = .ok (.if_icmp .ne 170, 3) := by decide +kernel
theorem dX4_isSame_144 : decode cX4_isSame 144 = .ok (.aload_n 1, 1) := by decide +kernel
theorem dX4_isSame_145 : decode cX4_isSame 145 = .ok (.iload 4, 2) := by decide +kernel
theorem dX4_isSame_147 : decode cX4_isSame 147 = .ok (.invokevirtual 126, 3) := by decide +kernel
theorem dX4_isSame_150 : decode cX4_isSame 150 = .ok (.aload 5, 2) := by decide +kernel
theorem dX4_isSame_152 : decode cX4_isSame 152 = .ok (.getfield 66, 3) := by decide +kernel
theorem dX4_isSame_155 : decode cX4_isSame 155 = .ok (.if_icmp .ne 156, 3) := by decide +kernel
theorem dX4_isSame_158 : decode cX4_isSame 158 = .ok (.aload_n 1, 1) := by decide +kernel
theorem dX4_isSame_159 : decode cX4_isSame 159 = .ok (.iload 4, 2) := by decide +kernel
theorem dX4_isSame_161 : decode cX4_isSame 161 = .ok (.invokevirtual 130, 3) := by decide +kernel
theorem dX4_isSame_164 : decode cX4_isSame 164 = .ok (.aload 5, 2) := by decide +kernel
theorem dX4_isSame_166 : decode cX4_isSame 166 = .ok (.getfield 77, 3) := by decide +kernel
theorem dX4_isSame_169 : decode cX4_isSame 169 = .ok (.if_icmp .ne 142, 3) := by decide +kernel
theorem dX4_isSame_172 : decode cX4_isSame 172 = .ok (.aload_n 1, 1) := by decide +kernel
theorem dX4_isSame_173 : decode cX4_isSame 173 = .ok (.iload 4, 2) := by decide +kernel
theorem dX4_isSame_175 : decode cX4_isSame 175 = .ok (.invokevirtual 133, 3) := by decide +kernel
theorem dX4_isSame_178 : decode cX4_isSame 178 = .ok (.aload 5, 2) := by decide +kernel
theorem dX4_isSame_180 : decode cX4_isSame 180 = .ok (.getfield 47, 3) := by decide +kernel
theorem dX4_isSame_183 : decode cX4_isSame 183 = .ok (.ifCond .ne 7, 3) := by decide +kernel
theorem dX4_isSame_186 : decode cX4_isSame 186 = .ok (.iconst 1, 1) := by decide +kernel
theorem dX4_isSame_187 : decode cX4_isSame 187 = .ok (.goto 4, 3) := by decide +kernel
theorem dX4_isSame_190 : decode cX4_isSame 190 = .ok (.iconst 0, 1) := by decide +kernel
theorem dX4_isSame_191 : decode cX4_isSame 191 = .ok (.if_icmp .ne 120, 3) := by decide +kernel
theorem dX4_isSame_194 : decode cX4_isSame 194 = .ok (.aload_n 1, 1) := by decide +kernel
theorem dX4_isSame_195 : decode cX4_isSame 195 = .ok (.iload 4, 2) := by decide +kernel
theorem dX4_isSame_197 : decode cX4_isSame 197 = .ok (.invokevirtual 136, 3) := by decide +kernel
theorem dX4_isSame_200 : decode cX4_isSame 200 = .ok (.aload 5, 2) := by decide +kernel
theorem dX4_isSame_202 : decode cX4_isSame 202 = .ok (.getfield 47, 3) := by decide +kernel
theorem dX4_isSame_205 : decode cX4_isSame 205 = .ok (.iconst 2, 1) := by decide +kernel
theorem dX4_isSame_206 : decode cX4_isSame 206 = .ok (.if_icmp .ne 7, 3) := by decide +kernel
theorem dX4_isSame_209 : decode cX4_isSame 209 = .ok (.iconst 1, 1) := by decide +kernel
theorem dX4_isSame_210 : decode cX4_isSame 210 = .ok (.goto 4, 3) := by decide +kernel
theorem dX4_isSame_213 : decode cX4_isSame 213 = .ok (.iconst 0, 1) := by decide +kernel
theorem dX4_isSame_214 : decode cX4_isSame 214 = .ok (.if_icmp .ne 97, 3) := by decide +kernel
theorem dX4_isSame_217 : decode cX4_isSame 217 = .ok (.aload_n 1, 1) := by decide +kernel
theorem dX4_isSame_218 : decode cX4_isSame 218 = .ok (.iload 4, 2) := by decide +kernel
theorem dX4_isSame_220 : decode cX4_isSame 220 = .ok (.invokevirtual 139, 3) := by decide +kernel
theorem dX4_isSame_223 : decode cX4_isSame 223 = .ok (.aload 5, 2) := by decide +kernel
theorem dX4_isSame_225 : decode cX4_isSame 225 = .ok (.getfield 53, 3) := by decide +kernel
theorem dX4_isSame_228 : decode cX4_isSame 228 = .ok (.if_icmp .ne 83, 3) := by decide +kernel
theorem dX4_isSame_231 : decode cX4_isSame 231 = .ok (.aload_n 1, 1) := by decide +kernel
theorem dX4_isSame_232 : decode cX4_isSame 232 = .ok (.iload 4, 2) := by decide +kernel
theorem dX4_isSame_234 : decode cX4_isSame 234 = .ok (.invokevirtual 142, 3) := by decide +kernel
theorem dX4_isSame_237 : decode cX4_isSame 237 = .ok (.aload 5, 2) := by decide +kernel
theorem dX4_isSame_239 : decode cX4_isSame 239 = .ok (.getfield 44, 3) := by decide +kernel
theorem dX4_isSame_242 : decode cX4_isSame 242 = .ok (.if_icmp .ne 69, 3) := by decide +kernel
theorem dX4_isSame_245 : decode cX4_isSame 245 = .ok (.aload 5, 2) := by decide +kernel
theorem dX4_isSame_247 : decode cX4_isSame 247 = .ok (.getfield 47, 3) := by decide +kernel
theorem dX4_isSame_250 : decode cX4_isSame 250 = .ok (.ifCond .eq 17, 3) := by decide +kernel
theorem dX4_isSame_253 : decode cX4_isSame 253 = .ok (.aload_n 1, 1) := by decide +kernel
theorem dX4_isSame_254 : decode cX4_isSame 254 = .ok (.iload 4, 2) := by decide +kernel
theorem dX4_isSame_256 : decode cX4_isSame 256 = .ok (.invokevirtual 145, 3) := by decide +kernel
theorem dX4_isSame_259 : decode cX4_isSame 259 = .ok (.aload 5, 2) := by decide +kernel
theorem dX4_isSame_261 : decode cX4_isSame 261 = .ok (.getfield 56, 3) := by decide +kernel
theorem dX4_isSame_264 : decode cX4_isSame 264 = .ok (.if_icmp .ne 47, 3) := by decide +kernel
theorem dX4_isSame_267 : decode cX4_isSame 267 = .ok (.aload_n 1, 1) := by decide +kernel
theorem dX4_isSame_268 : decode cX4_isSame 268 = .ok (.iload 4, 2) := by decide +kernel
theorem dX4_isSame_270 : decode cX4_isSame 270 = .ok (.invokevirtual 148, 3) := by decide +kernel
theorem dX4_isSame_273 : decode cX4_isSame 273 = .ok (.aload 5, 2) := by decide +kernel
theorem dX4_isSame_275 : decode cX4_isSame 275 = .ok (.getfield 47, 3) := by decide +kernel
theorem dX4_isSame_278 : decode cX4_isSame 278 = .ok (.ifCond .eq 15, 3) := by decide +kernel
theorem dX4_isSame_281 : decode cX4_isSame 281 = .ok (.aload 5, 2) := by decide +kernel
theorem dX4_isSame_283 : decode cX4_isSame 283 = .ok (.getfield 56, 3) := by decide +kernel
theorem dX4_isSame_286 : decode cX4_isSame 286 = .ok (.ifCond .ge 7, 3) := by decide +kernel
theorem dX4_isSame_289 : decode cX4_isSame 289 = .ok (.iconst 1, 1) := by decide +kernel
theorem dX4_isSame_290 : decode cX4_isSame 290 = .ok (.goto 4, 3) := by decide +kernel
theorem dX4_isSame_293 : decode cX4_isSame 293 = .ok (.iconst 0, 1) := by decide +kernel
theorem dX4_isSame_294 : decode cX4_isSame 294 = .ok (.if_icmp .ne 17, 3) := by decide +kernel
theorem dX4_isSame_297 : decode cX4_isSame 297 = .ok (.aload_n 1, 1) := by decide +kernel
theorem dX4_isSame_298 : decode cX4_isSame 298 = .ok (.iload 4, 2) := by decide +kernel
theorem dX4_isSame_300 : decode cX4_isSame 300 = .ok (.invokevirtual 151, 3) := by decide +kernel
theorem dX4_isSame_303 : decode cX4_isSame 303 = .ok (.aload 5, 2) := by decide +kernel
theorem dX4_isSame_305 : decode cX4_isSame 305 = .ok (.getfield 80, 3) := by decide +kernel
theorem dX4_isSame_308 : decode cX4_isSame 308 = .ok (.if_icmp .eq 5, 3) := by decide +kernel
theorem dX4_isSame_311 : decode cX4_isSame 311 = .ok (.iconst 0, 1) := by decide +kernel
theorem dX4_isSame_312 : decode cX4_isSame 312 = .ok (.ireturn, 1) := by decide +kernel
theorem dX4_isSame_313 : decode cX4_isSame 313 = .ok (.iconst 0, 1) := by decide +kernel
theorem dX4_isSame_314 : decode cX4_isSame 314 = .ok (.istore 6, 2) := by decide +kernel
theorem dX4_isSame_316 : decode cX4_isSame 316 = .ok (.iload 6, 2) := by decide +kernel
theorem dX4_isSame_318 : decode cX4_isSame 318 = .ok (.iload_n 2, 1) := by decide +kernel
theorem dX4_isSame_319 : decode cX4_isSame 319 = .ok (.if_icmp .ge 51, 3) := by decide +kernel
theorem dX4_isSame_322 : decode cX4_isSame 322 = .ok (.aload_n 1, 1) := by decide +kernel
theorem dX4_isSame_323 : decode cX4_isSame 323 = .ok (.iload 4, 2) := by decide +kernel
theorem dX4_isSame_325 : decode cX4_isSame 325 = .ok (.iload 6, 2) := by decide +kernel
theorem dX4_isSame_327 : decode cX4_isSame 327 = .ok (.invokevirtual 154, 3) := by decide +kernel
theorem dX4_isSame_330 : decode cX4_isSame 330 = .ok (.aload_n 0, 1) := by decide +kernel
theorem dX4_isSame_331 : decode cX4_isSame 331 = .ok (.getfield 17, 3) := by decide +kernel
theorem dX4_isSame_334 : decode cX4_isSame 334 = .ok (.iload 4, 2) := by decide +kernel
theorem dX4_isSame_336 : decode cX4_isSame 336 = .ok (.aaload, 1) := by decide +kernel
theorem dX4_isSame_337 : decode cX4_isSame 337 = .ok (.iload 6, 2) := by decide +kernel
theorem dX4_isSame_339 : decode cX4_isSame 339 = .ok (.iaload, 1) := by decide +kernel
theorem dX4_isSame_340 : decode cX4_isSame 340 = .ok (.if_icmp .ne 22, 3) := by decide +kernel
theorem dX4_isSame_343 : decode cX4_isSame 343 = .ok (.aload_n 1, 1) := by decide +kernel
theorem dX4_isSame_344 : decode cX4_isSame 344 = .ok (.iload 4, 2) := by decide +kernel
theorem dX4_isSame_346 : decode cX4_isSame 346 = .ok (.iload 6, 2) := by decide +kernel
theorem dX4_isSame_348 : decode cX4_isSame 348 = .ok (.invokevirtual 158, 3) := by decide +kernel
theorem dX4_isSame_351 : decode cX4_isSame 351 = .ok (.aload_n 0, 1) := by decide +kernel
theorem dX4_isSame_352 : decode cX4_isSame 352 = .ok (.iload 4, 2) := by decide +kernel
theorem dX4_isSame_354 : decode cX4_isSame 354 = .ok (.iload 6, 2) := by decide +kernel
theorem dX4_isSame_356 : decode cX4_isSame 356 = .ok (.invokevirtual 62, 3) := by decide +kernel
theorem dX4_isSame_359 : decode cX4_isSame 359 = .ok (.if_icmp .eq 5, 3) := by decide +kernel
theorem dX4_isSame_362 : decode cX4_isSame 362 = .ok (.iconst 0, 1) := by decide +kernel
theorem dX4_isSame_363 : decode cX4_isSame 363 = .ok (.ireturn, 1) := by decide +kernel
theorem dX4_isSame_364 : decode cX4_isSame 364 = .ok (.iinc 6 1, 3) := by decide +kernel
theorem dX4_isSame_367 : decode cX4_isSame 367 = .ok (.goto (-51), 3) := by decide +kernel
theorem dX4_isSame_370 : decode cX4_isSame 370 = .ok (.iload_n 3, 1) := by decide +kernel
theorem dX4_isSame_371 : decode cX4_isSame 371 = .ok (.aload 5, 2) := by decide +kernel
theorem dX4_isSame_373 : decode cX4_isSame 373 = .ok (.getfield 41, 3) := by decide +kernel
theorem dX4_isSame_376 : decode cX4_isSame 376 = .ok (.iadd, 1) := by decide +kernel
theorem dX4_isSame_377 : decode cX4_isSame 377 = .ok (.istore_n 3, 1) := by decide +kernel
theorem dX4_isSame_378 : decode cX4_isSame 378 = .ok (.iinc 4 1, 3) := by decide +kernel
theorem dX4_isSame_381 : decode cX4_isSame 381 = .ok (.goto (-294), 3) := by decide +kernel
theorem dX4_isSame_384 : decode cX4_isSame 384 = .ok (.aload_n 1, 1) := by decide +kernel
theorem dX4_isSame_385 : decode cX4_isSame 385 = .ok (.invokevirtual 161, 3) := by decide +kernel
theorem dX4_isSame_388 : decode cX4_isSame 388 = .ok (.iload_n 2, 1) := by decide +kernel
theorem dX4_isSame_389 : decode cX4_isSame 389 = .ok (.ifCond .ne 7, 3) := by decide +kernel
theorem dX4_isSame_392 : decode cX4_isSame 392 = .ok (.dconst 0, 1) := by decide +kernel
theorem dX4_isSame_393 : decode cX4_isSame 393 = .ok (.goto 8, 3) := by decide +kernel
theorem dX4_isSame_396 : decode cX4_isSame 396 = .ok (.iload_n 3, 1) := by decide +kernel
theorem dX4_isSame_397 : decode cX4_isSame 397 = .ok (.i2d, 1) := by decide +kernel
theorem dX4_isSame_398 : decode cX4_isSame 398 = .ok (.iload_n 2, 1) := by decide +kernel
theorem dX4_isSame_399 : decode cX4_isSame 399 = .ok (.i2d, 1) := by decide +kernel
theorem dX4_isSame_400 : decode cX4_isSame 400 = .ok (.ddiv, 1) := by decide +kernel
theorem dX4_isSame_401 : decode cX4_isSame 401 = .ok (.dcmp .l, 1) := by decide +kernel
theorem dX4_isSame_402 : decode cX4_isSame 402 = .ok (.ifCond .ne 7, 3) := by decide +kernel
theorem dX4_isSame_405 : decode cX4_isSame 405 = .ok (.iconst 1, 1) := by decide +kernel
theorem dX4_isSame_406 : decode cX4_isSame 406 = .ok (.goto 4, 3) := by decide +kernel
theorem dX4_isSame_409 : decode cX4_isSame 409 = .ok (.iconst 0, 1) := by decide +kernel
theorem dX4_isSame_410 : decode cX4_isSame 410 = .ok (.ireturn, 1) := by decide +kernel
