theorem dX10_init_0 : decode cX10_init 0 = .ok (.aload_n 0, 1) := by decide +kernel
theorem dX10_init_1 : decode cX10_init 1 = .ok (.invokespecial 1, 3) := by decide +kernel
theorem dX10_init_4 : decode cX10_init 4 = .ok (.aload_n 0, 1) := by decide +kernel
theorem dX10_init_5 : decode cX10_init 5 = .ok (.new 7, 3) := by decide +kernel
theorem dX10_init_8 : decode cX10_init 8 = .ok (.dup, 1) := by decide +kernel
theorem dX10_init_9 : decode cX10_init 9 = .ok (.invokespecial 9, 3) := by decide +kernel
theorem dX10_init_12 : decode cX10_init 12 = .ok (.putfield 10, 3) := by decide +kernel
theorem dX10_init_15 : decode cX10_init 15 = .ok (.aload_n 0, 1) := by decide +kernel
theorem dX10_init_16 : decode cX10_init 16 = .ok (.bipush 8, 2) := by decide +kernel
theorem dX10_init_18 : decode cX10_init 18 = .ok (.bipush 15, 2) := by decide +kernel
theorem dX10_init_20 : decode cX10_init 20 = .ok (.multianewarray 16 2, 4) := by decide +kernel
theorem dX10_init_24 : decode cX10_init 24 = .ok (.putfield 18, 3) := by decide +kernel
theorem dX10_init_27 : decode cX10_init 27 = .ok (.aload_n 0, 1) := by decide +kernel
theorem dX10_init_28 : decode cX10_init 28 = .ok (.bipush 8, 2) := by decide +kernel
theorem dX10_init_30 : decode cX10_init 30 = .ok (.bipush 8, 2) := by decide +kernel
theorem dX10_init_32 : decode cX10_init 32 = .ok (.multianewarray 16 2, 4) := by decide +kernel
theorem dX10_init_36 : decode cX10_init 36 = .ok (.putfield 21, 3) := by decide +kernel
theorem dX10_init_39 : decode cX10_init 39 = .ok (.aload_n 0, 1) := by decide +kernel
theorem dX10_init_40 : decode cX10_init 40 = .ok (.bipush 8, 2) := by decide +kernel
theorem dX10_init_42 : decode cX10_init 42 = .ok (.iconst 0, 1) := by decide +kernel
theorem dX10_init_43 : decode cX10_init 43 = .ok (.multianewarray 16 2, 4) := by decide +kernel
theorem dX10_init_47 : decode cX10_init 47 = .ok (.putfield 24, 3) := by decide +kernel
theorem dX10_init_50 : decode cX10_init 50 = .ok (.aload_n 0, 1) := by decide +kernel
theorem dX10_init_51 : decode cX10_init 51 = .ok (.iconst 3, 1) := by decide +kernel
theorem dX10_init_52 : decode cX10_init 52 = .ok (.iconst 3, 1) := by decide +kernel
theorem dX10_init_53 : decode cX10_init 53 = .ok (.multianewarray 16 2, 4) := by decide +kernel
theorem dX10_init_57 : decode cX10_init 57 = .ok (.putfield 27, 3) := by decide +kernel
theorem dX10_init_60 : decode cX10_init 60 = .ok (.aload_n 0, 1) := by decide +kernel
theorem dX10_init_61 : decode cX10_init 61 = .ok (.sipush 20000, 3) := by decide +kernel
theorem dX10_init_64 : decode cX10_init 64 = .ok (.putfield 30, 3) := by decide +kernel
theorem dX10_init_67 : decode cX10_init 67 = .ok (.aload_n 0, 1) := by decide +kernel
theorem dX10_init_68 : decode cX10_init 68 = .ok (.bipush (-51), 2) := by decide +kernel
theorem dX10_init_70 : decode cX10_init 70 = .ok (.putfield 34, 3) := by decide +kernel
theorem dX10_init_73 : decode cX10_init 73 = .ok (.aload_n 0, 1) := by decide +kernel
theorem dX10_init_74 : decode cX10_init 74 = .ok (.aload_n 1, 1) := by decide +kernel
theorem dX10_init_75 : decode cX10_init 75 = .ok (.putfield 37, 3) := by decide +kernel
theorem dX10_init_78 : decode cX10_init 78 = .ok (.aload_n 0, 1) := by decide +kernel
theorem dX10_init_79 : decode cX10_init 79 = .ok (.iload_n 2, 1) := by decide +kernel
theorem dX10_init_80 : decode cX10_init 80 = .ok (.putfield 41, 3) := by decide +kernel
theorem dX10_init_83 : decode cX10_init 83 = .ok (.return_, 1) := by decide +kernel
theorem dX10_draw_0 : decode cX10_draw 0 = .ok (.aload_n 0, 1) := by decide +kernel
theorem dX10_draw_1 : decode cX10_draw 1 = .ok (.getfield 37, 3) := by decide +kernel
theorem dX10_draw_4 : decode cX10_draw 4 = .ok (.aload_n 0, 1) := by decide +kernel
theorem dX10_draw_5 : decode cX10_draw 5 = .ok (.getfield 41, 3) := by decide +kernel
theorem dX10_draw_8 : decode cX10_draw 8 = .ok (.bipush 24, 2) := by decide +kernel
theorem dX10_draw_10 : decode cX10_draw 10 = .ok (.irem, 1) := by decide +kernel
theorem dX10_draw_11 : decode cX10_draw 11 = .ok (.invokestatic 44, 3) := by decide +kernel
theorem dX10_draw_14 : decode cX10_draw 14 = .ok (.aload_n 0, 1) := by decide +kernel
theorem dX10_draw_15 : decode cX10_draw 15 = .ok (.getfield 41, 3) := by decide +kernel
theorem dX10_draw_18 : decode cX10_draw 18 = .ok (.bipush 24, 2) := by decide +kernel
theorem dX10_draw_20 : decode cX10_draw 20 = .ok (.idiv, 1) := by decide +kernel
theorem dX10_draw_21 : decode cX10_draw 21 = .ok (.bipush 8, 2) := by decide +kernel
theorem dX10_draw_23 : decode cX10_draw 23 = .ok (.irem, 1) := by decide +kernel
theorem dX10_draw_24 : decode cX10_draw 24 = .ok (.ishr, 1) := by decide +kernel
theorem dX10_draw_25 : decode cX10_draw 25 = .ok (.sipush 293, 3) := by decide +kernel
theorem dX10_draw_28 : decode cX10_draw 28 = .ok (.aload_n 0, 1) := by decide +kernel
theorem dX10_draw_29 : decode cX10_draw 29 = .ok (.getfield 41, 3) := by decide +kernel
theorem dX10_draw_32 : decode cX10_draw 32 = .ok (.imul, 1) := by decide +kernel
theorem dX10_draw_33 : decode cX10_draw 33 = .ok (.iadd, 1) := by decide +kernel
theorem dX10_draw_34 : decode cX10_draw 34 = .ok (.iload_n 1, 1) := by decide +kernel
theorem dX10_draw_35 : decode cX10_draw 35 = .ok (.invokestatic 50, 3) := by decide +kernel
theorem dX10_draw_38 : decode cX10_draw 38 = .ok (.istore_n 2, 1) := by decide +kernel
theorem dX10_draw_39 : decode cX10_draw 39 = .ok (.aload_n 0, 1) := by decide +kernel
theorem dX10_draw_40 : decode cX10_draw 40 = .ok (.dup, 1) := by decide +kernel
theorem dX10_draw_41 : decode cX10_draw 41 = .ok (.getfield 41, 3) := by decide +kernel
theorem dX10_draw_44 : decode cX10_draw 44 = .ok (.iconst 1, 1) := by decide +kernel
theorem dX10_draw_45 : decode cX10_draw 45 = .ok (.iadd, 1) := by decide +kernel
theorem dX10_draw_46 : decode cX10_draw 46 = .ok (.putfield 41, 3) := by decide +kernel
theorem dX10_draw_49 : decode cX10_draw 49 = .ok (.iload_n 2, 1) := by decide +kernel
theorem dX10_draw_50 : decode cX10_draw 50 = .ok (.ireturn, 1) := by decide +kernel
theorem dX10_string_0 : decode cX10_string 0 = .ok (.aload_n 0, 1) := by decide +kernel
theorem dX10_string_1 : decode cX10_string 1 = .ok (.getfield 27, 3) := by decide +kernel
theorem dX10_string_4 : decode cX10_string 4 = .ok (.aload_n 0, 1) := by decide +kernel
theorem dX10_string_5 : decode cX10_string 5 = .ok (.dup, 1) := by decide +kernel
theorem dX10_string_6 : decode cX10_string 6 = .ok (.getfield 54, 3) := by decide +kernel
theorem dX10_string_9 : decode cX10_string 9 = .ok (.dup_x1, 1) := by decide +kernel
theorem dX10_string_10 : decode cX10_string 10 = .ok (.iconst 1, 1) := by decide +kernel
theorem dX10_string_11 : decode cX10_string 11 = .ok (.iadd, 1) := by decide +kernel
theorem dX10_string_12 : decode cX10_string 12 = .ok (.putfield 54, 3) := by decide +kernel
theorem dX10_string_15 : decode cX10_string 15 = .ok (.aaload, 1) := by decide +kernel
theorem dX10_string_16 : decode cX10_string 16 = .ok (.iconst 0, 1) := by decide +kernel
theorem dX10_string_17 : decode cX10_string 17 = .ok (.iload_n 1, 1) := by decide +kernel
theorem dX10_string_18 : decode cX10_string 18 = .ok (.iastore, 1) := by decide +kernel
theorem dX10_string_19 : decode cX10_string 19 = .ok (.aload_n 0, 1) := by decide +kernel
theorem dX10_string_20 : decode cX10_string 20 = .ok (.getfield 10, 3) := by decide +kernel
theorem dX10_string_23 : decode cX10_string 23 = .ok (.iload_n 1, 1) := by decide +kernel
theorem dX10_string_24 : decode cX10_string 24 = .ok (.invokevirtual 57, 3) := by decide +kernel
theorem dX10_string_27 : decode cX10_string 27 = .ok (.aload_n 0, 1) := by decide +kernel
theorem dX10_string_28 : decode cX10_string 28 = .ok (.getfield 54, 3) := by decide +kernel
theorem dX10_string_31 : decode cX10_string 31 = .ok (.iconst 1, 1) := by decide +kernel
theorem dX10_string_32 : decode cX10_string 32 = .ok (.isub, 1) := by decide +kernel
theorem dX10_string_33 : decode cX10_string 33 = .ok (.if_icmp .ne 7, 3) := by decide +kernel
theorem dX10_string_36 : decode cX10_string 36 = .ok (.iconst 1, 1) := by decide +kernel
theorem dX10_string_37 : decode cX10_string 37 = .ok (.goto 4, 3) := by decide +kernel
theorem dX10_string_40 : decode cX10_string 40 = .ok (.iconst 0, 1) := by decide +kernel
theorem dX10_string_41 : decode cX10_string 41 = .ok (.ireturn, 1) := by decide +kernel
theorem dX10_turbine_0 : decode cX10_turbine 0 = .ok (.iconst 0, 1) := by decide +kernel
theorem dX10_turbine_1 : decode cX10_turbine 1 = .ok (.istore 4, 2) := by decide +kernel
theorem dX10_turbine_3 : decode cX10_turbine 3 = .ok (.iload 4, 2) := by decide +kernel
theorem dX10_turbine_5 : decode cX10_turbine 5 = .ok (.aload_n 0, 1) := by decide +kernel
theorem dX10_turbine_6 : decode cX10_turbine 6 = .ok (.getfield 61, 3) := by decide +kernel
theorem dX10_turbine_9 : decode cX10_turbine 9 = .ok (.if_icmp .ge 37, 3) := by decide +kernel
theorem dX10_turbine_12 : decode cX10_turbine 12 = .ok (.aload_n 0, 1) := by decide +kernel
theorem dX10_turbine_13 : decode cX10_turbine 13 = .ok (.getfield 18, 3) := by decide +kernel
theorem dX10_turbine_16 : decode cX10_turbine 16 = .ok (.iload 4, 2) := by decide +kernel
theorem dX10_turbine_18 : decode cX10_turbine 18 = .ok (.aaload, 1) := by decide +kernel
theorem dX10_turbine_19 : decode cX10_turbine 19 = .ok (.iconst 0, 1) := by decide +kernel
theorem dX10_turbine_20 : decode cX10_turbine 20 = .ok (.iaload, 1) := by decide +kernel
theorem dX10_turbine_21 : decode cX10_turbine 21 = .ok (.iload_n 1, 1) := by decide +kernel
theorem dX10_turbine_22 : decode cX10_turbine 22 = .ok (.if_icmp .ne 18, 3) := by decide +kernel
theorem dX10_turbine_25 : decode cX10_turbine 25 = .ok (.aload_n 0, 1) := by decide +kernel
theorem dX10_turbine_26 : decode cX10_turbine 26 = .ok (.getfield 18, 3) := by decide +kernel
theorem dX10_turbine_29 : decode cX10_turbine 29 = .ok (.iload 4, 2) := by decide +kernel
theorem dX10_turbine_31 : decode cX10_turbine 31 = .ok (.aaload, 1) := by decide +kernel
theorem dX10_turbine_32 : decode cX10_turbine 32 = .ok (.iconst 1, 1) := by decide +kernel
theorem dX10_turbine_33 : decode cX10_turbine 33 = .ok (.iaload, 1) := by decide +kernel
theorem dX10_turbine_34 : decode cX10_turbine 34 = .ok (.iload_n 2, 1) := by decide +kernel
theorem dX10_turbine_35 : decode cX10_turbine 35 = .ok (.if_icmp .ne 5, 3) := by decide +kernel
theorem dX10_turbine_38 : decode cX10_turbine 38 = .ok (.iconst 1, 1) := by decide +kernel
theorem dX10_turbine_39 : decode cX10_turbine 39 = .ok (.ireturn, 1) := by decide +kernel
theorem dX10_turbine_40 : decode cX10_turbine 40 = .ok (.iinc 4 1, 3) := by decide +kernel
theorem dX10_turbine_43 : decode cX10_turbine 43 = .ok (.goto (-40), 3) := by decide +kernel
theorem dX10_turbine_46 : decode cX10_turbine 46 = .ok (.bipush 15, 2) := by decide +kernel
theorem dX10_turbine_48 : decode cX10_turbine 48 = .ok (.newarray .int, 2) := by decide +kernel
theorem dX10_turbine_50 : decode cX10_turbine 50 = .ok (.dup, 1) := by decide +kernel
theorem dX10_turbine_51 : decode cX10_turbine 51 = .ok (.iconst 0, 1) := by decide +kernel
theorem dX10_turbine_52 : decode cX10_turbine 52 = .ok (.iload_n 1, 1) := by decide +kernel
theorem dX10_turbine_53 : decode cX10_turbine 53 = .ok (.iastore, 1) := by decide +kernel
theorem dX10_turbine_54 : decode cX10_turbine 54 = .ok (.dup, 1) := by decide +kernel
theorem dX10_turbine_55 : decode cX10_turbine 55 = .ok (.iconst 1, 1) := by decide +kernel
theorem dX10_turbine_56 : decode cX10_turbine 56 = .ok (.iload_n 2, 1) := by decide +kernel
theorem dX10_turbine_57 : decode cX10_turbine 57 = .ok (.iastore, 1) := by decide +kernel
theorem dX10_turbine_58 : decode cX10_turbine 58 = .ok (.dup, 1) := by decide +kernel
theorem dX10_turbine_59 : decode cX10_turbine 59 = .ok (.iconst 2, 1) := by decide +kernel
theorem dX10_turbine_60 : decode cX10_turbine 60 = .ok (.iload_n 3, 1) := by decide +kernel
theorem dX10_turbine_61 : decode cX10_turbine 61 = .ok (.iastore, 1) := by decide +kernel
theorem dX10_turbine_62 : decode cX10_turbine 62 = .ok (.dup, 1) := by decide +kernel
theorem dX10_turbine_63 : decode cX10_turbine 63 = .ok (.iconst 3, 1) := by decide +kernel
theorem dX10_turbine_64 : decode cX10_turbine 64 = .ok (.iconst 2, 1) := by decide +kernel
theorem dX10_turbine_65 : decode cX10_turbine 65 = .ok (.iastore, 1) := by decide +kernel
theorem dX10_turbine_66 : decode cX10_turbine 66 = .ok (.dup, 1) := by decide +kernel
theorem dX10_turbine_67 : decode cX10_turbine 67 = .ok (.iconst 4, 1) := by decide +kernel
theorem dX10_turbine_68 : decode cX10_turbine 68 = .ok (.iconst 0, 1) := by decide +kernel
theorem dX10_turbine_69 : decode cX10_turbine 69 = .ok (.iastore, 1) := by decide +kernel
theorem dX10_turbine_70 : decode cX10_turbine 70 = .ok (.dup, 1) := by decide +kernel
theorem dX10_turbine_71 : decode cX10_turbine 71 = .ok (.iconst 5, 1) := by decide +kernel
theorem dX10_turbine_72 : decode cX10_turbine 72 = .ok (.iconst 0, 1) := by decide +kernel
theorem dX10_turbine_73 : decode cX10_turbine 73 = .ok (.iastore, 1) := by decide +kernel
theorem dX10_turbine_74 : decode cX10_turbine 74 = .ok (.dup, 1) := by decide +kernel
theorem dX10_turbine_75 : decode cX10_turbine 75 = .ok (.bipush 6, 2) := by decide +kernel
theorem dX10_turbine_77 : decode cX10_turbine 77 = .ok (.iconst 0, 1) := by decide +kernel
theorem dX10_turbine_78 : decode cX10_turbine 78 = .ok (.iastore, 1) := by decide +kernel
theorem dX10_turbine_79 : decode cX10_turbine 79 = .ok (.dup, 1) := by decide +kernel
theorem dX10_turbine_80 : decode cX10_turbine 80 = .ok (.bipush 7, 2) := by decide +kernel
theorem dX10_turbine_82 : decode cX10_turbine 82 = .ok (.iconst 0, 1) := by decide +kernel
theorem dX10_turbine_83 : decode cX10_turbine 83 = .ok (.iastore, 1) := by decide +kernel
theorem dX10_turbine_84 : decode cX10_turbine 84 = .ok (.dup, 1) := by decide +kernel
theorem dX10_turbine_85 : decode cX10_turbine 85 = .ok (.bipush 8, 2) := by decide +kernel
theorem dX10_turbine_87 : decode cX10_turbine 87 = .ok (.iconst 0, 1) := by decide +kernel
theorem dX10_turbine_88 : decode cX10_turbine 88 = .ok (.iastore, 1) := by decide +kernel
theorem dX10_turbine_89 : decode cX10_turbine 89 = .ok (.dup, 1) := by decide +kernel
theorem dX10_turbine_90 : decode cX10_turbine 90 = .ok (.bipush 9, 2) := by decide +kernel
theorem dX10_turbine_92 : decode cX10_turbine 92 = .ok (.iconst 0, 1) := by decide +kernel
theorem dX10_turbine_93 : decode cX10_turbine 93 = .ok (.iastore, 1) := by decide +kernel
theorem dX10_turbine_94 : decode cX10_turbine 94 = .ok (.dup, 1) := by decide +kernel
theorem dX10_turbine_95 : decode cX10_turbine 95 = .ok (.bipush 10, 2) := by decide +kernel
theorem dX10_turbine_97 : decode cX10_turbine 97 = .ok (.iconst 0, 1) := by decide +kernel
theorem dX10_turbine_98 : decode cX10_turbine 98 = .ok (.iastore, 1) := by decide +kernel
theorem dX10_turbine_99 : decode cX10_turbine 99 = .ok (.dup, 1) := by decide +kernel
theorem dX10_turbine_100 : decode cX10_turbine 100 = .ok (.bipush 11, 2) := by decide +kernel
theorem dX10_turbine_102 : decode cX10_turbine 102 = .ok (.iconst 0, 1) := by decide +kernel
theorem dX10_turbine_103 : decode cX10_turbine 103 = .ok (.iastore, 1) := by decide +kernel
theorem dX10_turbine_104 : decode cX10_turbine 104 = .ok (.dup, 1) := by decide +kernel
theorem dX10_turbine_105 : decode cX10_turbine 105 = .ok (.bipush 12, 2) := by decide +kernel
theorem dX10_turbine_107 : decode cX10_turbine 107 = .ok (.iconst 0, 1) := by decide +kernel
theorem dX10_turbine_108 : decode cX10_turbine 108 = .ok (.iastore, 1) := by decide +kernel
theorem dX10_turbine_109 : decode cX10_turbine 109 = .ok (.dup, 1) := by decide +kernel
theorem dX10_turbine_110 : decode cX10_turbine 110 = .ok (.bipush 13, 2) := by decide +kernel
theorem dX10_turbine_112 : decode cX10_turbine 112 = .ok (.iconst (-1), 1) := by decide +kernel
theorem dX10_turbine_113 : decode cX10_turbine 113 = .ok (.iastore, 1) := by decide +kernel
theorem dX10_turbine_114 : decode cX10_turbine 114 = .ok (.dup, 1) := by decide +kernel
theorem dX10_turbine_115 : decode cX10_turbine 115 = .ok (.bipush 14, 2) := by decide +kernel
theorem dX10_turbine_117 : decode cX10_turbine 117 = .ok (.iconst (-1), 1) := by decide +kernel
theorem dX10_turbine_118 : decode cX10_turbine 118 = .ok (.iastore, 1) := by decide +kernel
theorem dX10_turbine_119 : decode cX10_turbine 119 = .ok (.astore 4, 2) := by decide +kernel
theorem dX10_turbine_121 : decode cX10_turbine 121 = .ok (.aload_n 0, 1) := by decide +kernel
theorem dX10_turbine_122 : decode cX10_turbine 122 = .ok (.getfield 18, 3) := by decide +kernel
theorem dX10_turbine_125 : decode cX10_turbine 125 = .ok (.aload_n 0, 1) := by decide +kernel
theorem dX10_turbine_126 : decode cX10_turbine 126 = .ok (.dup, 1) := by decide +kernel
theorem dX10_turbine_127 : decode cX10_turbine 127 = .ok (.getfield 61, 3) := by decide +kernel
theorem dX10_turbine_130 : decode cX10_turbine 130 = .ok (.dup_x1, 1) := by decide +kernel
theorem dX10_turbine_131 : decode cX10_turbine 131 = .ok (.iconst 1, 1) := by decide +kernel
theorem dX10_turbine_132 : decode cX10_turbine 132 = .ok (.iadd, 1) := by decide +kernel
theorem dX10_turbine_133 : decode cX10_turbine 133 = .ok (.putfield 61, 3) := by decide +kernel
theorem dX10_turbine_136 : decode cX10_turbine 136 = .ok (.aload 4, 2) := by decide +kernel
theorem dX10_turbine_138 : decode cX10_turbine 138 = .ok (.aastore, 1) := by decide +kernel
theorem dX10_turbine_139 : decode cX10_turbine 139 = .ok (.aload_n 0, 1) := by decide +kernel
theorem dX10_turbine_140 : decode cX10_turbine 140 = .ok (.getfield 10, 3) := by decide +kernel
theorem dX10_turbine_143 : decode cX10_turbine 143 = .ok (.iload_n 1, 1) := by decide +kernel
theorem dX10_turbine_144 : decode cX10_turbine 144 = .ok (.iload_n 2, 1) := by decide +kernel
theorem dX10_turbine_145 : decode cX10_turbine 145 = .ok (.iload_n 3, 1) := by decide +kernel
theorem dX10_turbine_146 : decode cX10_turbine 146 = .ok (.invokevirtual 64, 3) := by decide +kernel
theorem dX10_turbine_149 : decode cX10_turbine 149 = .ok (.aload_n 0, 1) := by decide +kernel
theorem dX10_turbine_150 : decode cX10_turbine 150 = .ok (.getfield 61, 3) := by decide +kernel
theorem dX10_turbine_153 : decode cX10_turbine 153 = .ok (.iconst 1, 1) := by decide +kernel
theorem dX10_turbine_154 : decode cX10_turbine 154 = .ok (.isub, 1) := by decide +kernel
theorem dX10_turbine_155 : decode cX10_turbine 155 = .ok (.if_icmp .ne 7, 3) := by decide +kernel
theorem dX10_turbine_158 : decode cX10_turbine 158 = .ok (.iconst 1, 1) := by decide +kernel
theorem dX10_turbine_159 : decode cX10_turbine 159 = .ok (.goto 4, 3) := by decide +kernel
theorem dX10_turbine_162 : decode cX10_turbine 162 = .ok (.iconst 0, 1) := by decide +kernel
theorem dX10_turbine_163 : decode cX10_turbine 163 = .ok (.ireturn, 1) := by decide +kernel
theorem dX10_found_0 : decode cX10_found 0 = .ok (.iconst 0, 1) := by decide +kernel
theorem dX10_found_1 : decode cX10_found 1 = .ok (.istore_n 2, 1) := by decide +kernel
theorem dX10_found_2 : decode cX10_found 2 = .ok (.iload_n 2, 1) := by decide +kernel
theorem dX10_found_3 : decode cX10_found 3 = .ok (.iconst 2, 1) := by decide +kernel
theorem dX10_found_4 : decode cX10_found 4 = .ok (.if_icmp .ge 29, 3) := by decide +kernel
theorem dX10_found_7 : decode cX10_found 7 = .ok (.aload_n 0, 1) := by decide +kernel
theorem dX10_found_8 : decode cX10_found 8 = .ok (.sipush 500, 3) := by decide +kernel
theorem dX10_found_11 : decode cX10_found 11 = .ok (.aload_n 0, 1) := by decide +kernel
theorem dX10_found_12 : decode cX10_found 12 = .ok (.sipush 6000, 3) := by decide +kernel
theorem dX10_found_15 : decode cX10_found 15 = .ok (.invokevirtual 137, 3) := by decide +kernel
theorem dX10_found_18 : decode cX10_found 18 = .ok (.iadd, 1) := by decide +kernel
theorem dX10_found_19 : decode cX10_found 19 = .ok (.invokevirtual 140, 3) := by decide +kernel
theorem dX10_found_22 : decode cX10_found 22 = .ok (.ifCond .ne 5, 3) := by decide +kernel
theorem dX10_found_25 : decode cX10_found 25 = .ok (.iconst 0, 1) := by decide +kernel
theorem dX10_found_26 : decode cX10_found 26 = .ok (.ireturn, 1) := by decide +kernel
theorem dX10_found_27 : decode cX10_found 27 = .ok (.iinc 2 1, 3) := by decide +kernel
theorem dX10_found_30 : decode cX10_found 30 = .ok (.goto (-28), 3) := by decide +kernel
theorem dX10_found_33 : decode cX10_found 33 = .ok (.iconst 0, 1) := by decide +kernel
theorem dX10_found_34 : decode cX10_found 34 = .ok (.istore_n 2, 1) := by decide +kernel
theorem dX10_found_35 : decode cX10_found 35 = .ok (.iload_n 2, 1) := by decide +kernel
theorem dX10_found_36 : decode cX10_found 36 = .ok (.iload_n 1, 1) := by decide +kernel
theorem dX10_found_37 : decode cX10_found 37 = .ok (.if_icmp .ge 35, 3) := by decide +kernel
theorem dX10_found_40 : decode cX10_found 40 = .ok (.aload_n 0, 1) := by decide +kernel
theorem dX10_found_41 : decode cX10_found 41 = .ok (.aload_n 0, 1) := by decide +kernel
theorem dX10_found_42 : decode cX10_found 42 = .ok (.bipush 9, 2) := by decide +kernel
theorem dX10_found_44 : decode cX10_found 44 = .ok (.invokevirtual 137, 3) := by decide +kernel
theorem dX10_found_47 : decode cX10_found 47 = .ok (.aload_n 0, 1) := by decide +kernel
theorem dX10_found_48 : decode cX10_found 48 = .ok (.bipush 9, 2) := by decide +kernel
theorem dX10_found_50 : decode cX10_found 50 = .ok (.invokevirtual 137, 3) := by decide +kernel
theorem dX10_found_53 : decode cX10_found 53 = .ok (.aload_n 0, 1) := by decide +kernel
theorem dX10_found_54 : decode cX10_found 54 = .ok (.iconst 2, 1) := by decide +kernel
theorem dX10_found_55 : decode cX10_found 55 = .ok (.invokevirtual 137, 3) := by decide +kernel
theorem dX10_found_58 : decode cX10_found 58 = .ok (.invokevirtual 143, 3) := by decide +kernel
theorem dX10_found_61 : decode cX10_found 61 = .ok (.ifCond .ne 5, 3) := by decide +kernel
theorem dX10_found_64 : decode cX10_found 64 = .ok (.iconst 0, 1) := by decide +kernel
theorem dX10_found_65 : decode cX10_found 65 = .ok (.ireturn, 1) := by decide +kernel
theorem dX10_found_66 : decode cX10_found 66 = .ok (.iinc 2 1, 3) := by decide +kernel
theorem dX10_found_69 : decode cX10_found 69 = .ok (.goto (-34), 3) := by decide +kernel
theorem dX10_found_72 : decode cX10_found 72 = .ok (.iconst 1, 1) := by decide +kernel
theorem dX10_found_73 : decode cX10_found 73 = .ok (.ireturn, 1) := by decide +kernel
theorem dL_below_0 : decode cL_below 0 = .ok (.iload_n 0, 1) := by decide +kernel
theorem dL_below_1 : decode cL_below 1 = .ok (.ldc 7, 2) := by decide +kernel
theorem dL_below_3 : decode cL_below 3 = .ok (.iand, 1) := by decide +kernel
theorem dL_below_4 : decode cL_below 4 = .ok (.iload_n 1, 1) := by decide +kernel
theorem dL_below_5 : decode cL_below 5 = .ok (.irem, 1) := by decide +kernel
theorem dL_below_6 : decode cL_below 6 = .ok (.ireturn, 1) := by decide +kernel
theorem dL_cell_0 : decode cL_cell 0 = .ok (.iload_n 1, 1) := by decide +kernel
theorem dL_cell_1 : decode cL_cell 1 = .ok (.aload_n 0, 1) := by decide +kernel
theorem dL_cell_2 : decode cL_cell 2 = .ok (.arraylength, 1) := by decide +kernel
theorem dL_cell_3 : decode cL_cell 3 = .ok (.if_icmp .ge 9, 3) := by decide +kernel
theorem dL_cell_6 : decode cL_cell 6 = .ok (.aload_n 0, 1) := by decide +kernel
theorem dL_cell_7 : decode cL_cell 7 = .ok (.iload_n 1, 1) := by decide +kernel
theorem dL_cell_8 : decode cL_cell 8 = .ok (.iaload, 1) := by decide +kernel
theorem dL_cell_9 : decode cL_cell 9 = .ok (.goto 9, 3) := by decide +kernel
theorem dL_cell_12 : decode cL_cell 12 = .ok (.ldc 8, 2) := by decide +kernel
theorem dL_cell_14 : decode cL_cell 14 = .ok (.iload_n 1, 1) := by decide +kernel
theorem dL_cell_15 : decode cL_cell 15 = .ok (.iconst 3, 1) := by decide +kernel
theorem dL_cell_16 : decode cL_cell 16 = .ok (.iadd, 1) := by decide +kernel
theorem dL_cell_17 : decode cL_cell 17 = .ok (.imul, 1) := by decide +kernel
theorem dL_cell_18 : decode cL_cell 18 = .ok (.ireturn, 1) := by decide +kernel
theorem dL_isBest_0 : decode cL_isBest 0 = .ok (.aload_n 0, 1) := by decide +kernel
theorem dL_isBest_1 : decode cL_isBest 1 = .ok (.getfield 14, 3) := by decide +kernel
theorem dL_isBest_4 : decode cL_isBest 4 = .ok (.invokevirtual 67, 3) := by decide +kernel
theorem dL_isBest_7 : decode cL_isBest 7 = .ok (.istore_n 1, 1) := by decide +kernel
theorem dL_isBest_8 : decode cL_isBest 8 = .ok (.aload_n 0, 1) := by decide +kernel
theorem dL_isBest_9 : decode cL_isBest 9 = .ok (.sipush 400, 3) := by decide +kernel
theorem dL_isBest_12 : decode cL_isBest 12 = .ok (.invokevirtual 26, 3) := by decide +kernel
theorem dL_isBest_15 : decode cL_isBest 15 = .ok (.istore_n 2, 1) := by decide +kernel
theorem dL_isBest_16 : decode cL_isBest 16 = .ok (.iconst 0, 1) := by decide +kernel
theorem dL_isBest_17 : decode cL_isBest 17 = .ok (.istore_n 3, 1) := by decide +kernel
theorem dL_isBest_18 : decode cL_isBest 18 = .ok (.iload_n 3, 1) := by decide +kernel
theorem dL_isBest_19 : decode cL_isBest 19 = .ok (.aload_n 0, 1) := by decide +kernel
theorem dL_isBest_20 : decode cL_isBest 20 = .ok (.getfield 22, 3) := by decide +kernel
theorem dL_isBest_23 : decode cL_isBest 23 = .ok (.if_icmp .ge 47, 3) := by decide +kernel
theorem dL_isBest_26 : decode cL_isBest 26 = .ok (.bipush 20, 2) := by decide +kernel
theorem dL_isBest_28 : decode cL_isBest 28 = .ok (.aload_n 0, 1) := by decide +kernel
theorem dL_isBest_29 : decode cL_isBest 29 = .ok (.getfield 71, 3) := by decide +kernel
theorem dL_isBest_32 : decode cL_isBest 32 = .ok (.iload_n 3, 1) := by decide +kernel
theorem dL_isBest_33 : decode cL_isBest 33 = .ok (.aaload, 1) := by decide +kernel
theorem dL_isBest_34 : decode cL_isBest 34 = .ok (.iconst 0, 1) := by decide +kernel
theorem dL_isBest_35 : decode cL_isBest 35 = .ok (.iaload, 1) := by decide +kernel
theorem dL_isBest_36 : decode cL_isBest 36 = .ok (.imul, 1) := by decide +kernel
theorem dL_isBest_37 : decode cL_isBest 37 = .ok (.aload_n 0, 1) := by decide +kernel
theorem dL_isBest_38 : decode cL_isBest 38 = .ok (.getfield 71, 3) := by decide +kernel
theorem dL_isBest_41 : decode cL_isBest 41 = .ok (.iload_n 3, 1) := by decide +kernel
theorem dL_isBest_42 : decode cL_isBest 42 = .ok (.aaload, 1) := by decide +kernel
theorem dL_isBest_43 : decode cL_isBest 43 = .ok (.iconst 1, 1) := by decide +kernel
theorem dL_isBest_44 : decode cL_isBest 44 = .ok (.iaload, 1) := by decide +kernel
theorem dL_isBest_45 : decode cL_isBest 45 = .ok (.iadd, 1) := by decide +kernel
theorem dL_isBest_46 : decode cL_isBest 46 = .ok (.istore 4, 2) := by decide +kernel
theorem dL_isBest_48 : decode cL_isBest 48 = .ok (.iload 4, 2) := by decide +kernel
theorem dL_isBest_50 : decode cL_isBest 50 = .ok (.iload_n 1, 1) := by decide +kernel
theorem dL_isBest_51 : decode cL_isBest 51 = .ok (.if_icmp .ne 5, 3) := by decide +kernel
theorem dL_isBest_54 : decode cL_isBest 54 = .ok (.iconst 0, 1) := by decide +kernel
theorem dL_isBest_55 : decode cL_isBest 55 = .ok (.ireturn, 1) := by decide +kernel
theorem dL_isBest_56 : decode cL_isBest 56 = .ok (.iload 4, 2) := by decide +kernel
theorem dL_isBest_58 : decode cL_isBest 58 = .ok (.iload_n 2, 1) := by decide +kernel
theorem dL_isBest_59 : decode cL_isBest 59 = .ok (.if_icmp .ne 5, 3) := by decide +kernel
theorem dL_isBest_62 : decode cL_isBest 62 = .ok (.iconst 1, 1) := by decide +kernel
theorem dL_isBest_63 : decode cL_isBest 63 = .ok (.ireturn, 1) := by decide +kernel
theorem dL_isBest_64 : decode cL_isBest 64 = .ok (.iinc 3 1, 3) := by decide +kernel
theorem dL_isBest_67 : decode cL_isBest 67 = .ok (.goto (-49), 3) := by decide +kernel
theorem dL_isBest_70 : decode cL_isBest 70 = .ok (.aload_n 0, 1) := by decide +kernel
theorem dL_isBest_71 : decode cL_isBest 71 = .ok (.iload_n 1, 1) := by decide +kernel
theorem dL_isBest_72 : decode cL_isBest 72 = .ok (.invokestatic 75, 3) := by decide +kernel
theorem dL_isBest_75 : decode cL_isBest 75 = .ok (.istore_n 3, 1) := by decide +kernel
theorem dL_isBest_76 : decode cL_isBest 76 = .ok (.aload_n 0, 1) := by decide +kernel
theorem dL_isBest_77 : decode cL_isBest 77 = .ok (.iload_n 2, 1) := by decide +kernel
theorem dL_isBest_78 : decode cL_isBest 78 = .ok (.invokestatic 75, 3) := by decide +kernel
theorem dL_isBest_81 : decode cL_isBest 81 = .ok (.istore 4, 2) := by decide +kernel
theorem dL_isBest_83 : decode cL_isBest 83 = .ok (.iload_n 3, 1) := by decide +kernel
theorem dL_isBest_84 : decode cL_isBest 84 = .ok (.iload 4, 2) := by decide +kernel
theorem dL_isBest_86 : decode cL_isBest 86 = .ok (.if_icmp .gt 14, 3) := by decide +kernel
theorem dL_isBest_89 : decode cL_isBest 89 = .ok (.iload_n 3, 1) := by decide +kernel
theorem dL_isBest_90 : decode cL_isBest 90 = .ok (.iload 4, 2) := by decide +kernel
theorem dL_isBest_92 : decode cL_isBest 92 = .ok (.if_icmp .ne 12, 3) := by decide +kernel
theorem dL_isBest_95 : decode cL_isBest 95 = .ok (.iload_n 1, 1) := by decide +kernel
theorem dL_isBest_96 : decode cL_isBest 96 = .ok (.iload_n 2, 1) := by decide +kernel
theorem dL_isBest_97 : decode cL_isBest 97 = .ok (.if_icmp .gt 7, 3) := by decide +kernel
theorem dL_isBest_100 : decode cL_isBest 100 = .ok (.iconst 1, 1) := by decide +kernel
theorem dL_isBest_101 : decode cL_isBest 101 = .ok (.goto 4, 3) := by decide +kernel
theorem dL_isBest_104 : decode cL_isBest 104 = .ok (.iconst 0, 1) := by decide +kernel
theorem dL_isBest_105 : decode cL_isBest 105 = .ok (.ireturn, 1) := by decide +kernel
theorem dL_made_0 : decode cL_made 0 = .ok (.new 31, 3) := by decide +kernel
theorem dL_made_3 : decode cL_made 3 = .ok (.dup, 1) := by decide +kernel
theorem dL_made_4 : decode cL_made 4 = .ok (.invokespecial 79, 3) := by decide +kernel
theorem dL_made_7 : decode cL_made 7 = .ok (.astore_n 2, 1) := by decide +kernel
theorem dL_made_8 : decode cL_made 8 = .ok (.aload_n 2, 1) := by decide +kernel
theorem dL_made_9 : decode cL_made 9 = .ok (.sipush 9999, 3) := by decide +kernel
theorem dL_made_12 : decode cL_made 12 = .ok (.invokevirtual 80, 3) := by decide +kernel
theorem dL_made_15 : decode cL_made 15 = .ok (.pop, 1) := by decide +kernel
theorem dL_made_16 : decode cL_made 16 = .ok (.aload_n 2, 1) := by decide +kernel
theorem dL_made_17 : decode cL_made 17 = .ok (.sipush 9999, 3) := by decide +kernel
theorem dL_made_20 : decode cL_made 20 = .ok (.invokevirtual 80, 3) := by decide +kernel
theorem dL_made_23 : decode cL_made 23 = .ok (.pop, 1) := by decide +kernel
theorem dL_made_24 : decode cL_made 24 = .ok (.iconst 0, 1) := by decide +kernel
theorem dL_made_25 : decode cL_made 25 = .ok (.istore_n 3, 1) := by decide +kernel
theorem dL_made_26 : decode cL_made 26 = .ok (.iload_n 3, 1) := by decide +kernel
theorem dL_made_27 : decode cL_made 27 = .ok (.aload_n 0, 1) := by decide +kernel
theorem dL_made_28 : decode cL_made 28 = .ok (.getfield 22, 3) := by decide +kernel
theorem dL_made_31 : decode cL_made 31 = .ok (.if_icmp .ge 31, 3) := by decide +kernel
theorem dL_made_34 : decode cL_made 34 = .ok (.aload_n 2, 1) := by decide +kernel
theorem dL_made_35 : decode cL_made 35 = .ok (.aload_n 0, 1) := by decide +kernel
theorem dL_made_36 : decode cL_made 36 = .ok (.getfield 71, 3) := by decide +kernel
theorem dL_made_39 : decode cL_made 39 = .ok (.iload_n 3, 1) := by decide +kernel
theorem dL_made_40 : decode cL_made 40 = .ok (.aaload, 1) := by decide +kernel
theorem dL_made_41 : decode cL_made 41 = .ok (.iconst 0, 1) := by decide +kernel
theorem dL_made_42 : decode cL_made 42 = .ok (.iaload, 1) := by decide +kernel
theorem dL_made_43 : decode cL_made 43 = .ok (.aload_n 0, 1) := by decide +kernel
theorem dL_made_44 : decode cL_made 44 = .ok (.getfield 71, 3) := by decide +kernel
theorem dL_made_47 : decode cL_made 47 = .ok (.iload_n 3, 1) := by decide +kernel
theorem dL_made_48 : decode cL_made 48 = .ok (.aaload, 1) := by decide +kernel
theorem dL_made_49 : decode cL_made 49 = .ok (.iconst 1, 1) := by decide +kernel
theorem dL_made_50 : decode cL_made 50 = .ok (.iaload, 1) := by decide +kernel
theorem dL_made_51 : decode cL_made 51 = .ok (.iconst 0, 1) := by decide +kernel
theorem dL_made_52 : decode cL_made 52 = .ok (.invokevirtual 83, 3) := by decide +kernel
theorem dL_made_55 : decode cL_made 55 = .ok (.pop, 1) := by decide +kernel
theorem dL_made_56 : decode cL_made 56 = .ok (.iinc 3 1, 3) := by decide +kernel
theorem dL_made_59 : decode cL_made 59 = .ok (.goto (-33), 3) := by decide +kernel
theorem dL_made_62 : decode cL_made 62 = .ok (.aload_n 2, 1) := by decide +kernel
theorem dL_made_63 : decode cL_made 63 = .ok (.iload_n 1, 1) := by decide +kernel
theorem dL_made_64 : decode cL_made 64 = .ok (.bipush 20, 2) := by decide +kernel
theorem dL_made_66 : decode cL_made 66 = .ok (.idiv, 1) := by decide +kernel
theorem dL_made_67 : decode cL_made 67 = .ok (.iload_n 1, 1) := by decide +kernel
theorem dL_made_68 : decode cL_made 68 = .ok (.bipush 20, 2) := by decide +kernel
theorem dL_made_70 : decode cL_made 70 = .ok (.irem, 1) := by decide +kernel
theorem dL_made_71 : decode cL_made 71 = .ok (.iconst 1, 1) := by decide +kernel
theorem dL_made_72 : decode cL_made 72 = .ok (.invokevirtual 83, 3) := by decide +kernel
theorem dL_made_75 : decode cL_made 75 = .ok (.pop, 1) := by decide +kernel
theorem dL_made_76 : decode cL_made 76 = .ok (.iconst 0, 1) := by decide +kernel
theorem dL_made_77 : decode cL_made 77 = .ok (.istore_n 3, 1) := by decide +kernel
theorem dL_made_78 : decode cL_made 78 = .ok (.iconst 0, 1) := by decide +kernel
theorem dL_made_79 : decode cL_made 79 = .ok (.istore 4, 2) := by decide +kernel
theorem dL_made_81 : decode cL_made 81 = .ok (.iload 4, 2) := by decide +kernel
theorem dL_made_83 : decode cL_made 83 = .ok (.bipush 8, 2) := by decide +kernel
theorem dL_made_85 : decode cL_made 85 = .ok (.if_icmp .ge 26, 3) := by decide +kernel
theorem dL_made_88 : decode cL_made 88 = .ok (.iload_n 3, 1) := by decide +kernel
theorem dL_made_89 : decode cL_made 89 = .ok (.aload_n 2, 1) := by decide +kernel
theorem dL_made_90 : decode cL_made 90 = .ok (.iconst 1, 1) := by decide +kernel
theorem dL_made_91 : decode cL_made 91 = .ok (.iload 4, 2) := by decide +kernel
theorem dL_made_93 : decode cL_made 93 = .ok (.bipush 10, 2) := by decide +kernel
theorem dL_made_95 : decode cL_made 95 = .ok (.iconst 0, 1) := by decide +kernel
theorem dL_made_96 : decode cL_made 96 = .ok (.iconst 0, 1) := by decide +kernel
theorem dL_made_97 : decode cL_made 97 = .ok (.sipush 20000, 3) := by decide +kernel
theorem dL_made_100 : decode cL_made 100 = .ok (.invokevirtual 54, 3) := by decide +kernel
theorem dL_made_103 : decode cL_made 103 = .ok (.iadd, 1) := by decide +kernel
theorem dL_made_104 : decode cL_made 104 = .ok (.istore_n 3, 1) := by decide +kernel
theorem dL_made_105 : decode cL_made 105 = .ok (.iinc 4 1, 3) := by decide +kernel
theorem dL_made_108 : decode cL_made 108 = .ok (.goto (-27), 3) := by decide +kernel
theorem dL_made_111 : decode cL_made 111 = .ok (.iload_n 3, 1) := by decide +kernel
theorem dL_made_112 : decode cL_made 112 = .ok (.ireturn, 1) := by decide +kernel
