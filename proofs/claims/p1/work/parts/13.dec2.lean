theorem dJ5_init_d00df_0 : decode cJ5_init_d00df 0 = .ok (.aload_n 0, 1) := by decide +kernel
theorem dJ5_init_d00df_1 : decode cJ5_init_d00df 1 = .ok (.invokespecial 3, 3) := by decide +kernel
theorem dJ5_init_d00df_4 : decode cJ5_init_d00df 4 = .ok (.getstatic 18, 3) := by decide +kernel
theorem dJ5_init_d00df_7 : decode cJ5_init_d00df 7 = .ok (.ifCond .eq 18, 3) := by decide +kernel
theorem dJ5_init_d00df_10 : decode cJ5_init_d00df 10 = .ok (.aload_n 0, 1) := by decide +kernel
theorem dJ5_init_d00df_11 : decode cJ5_init_d00df 11 = .ok (.iload_n 1, 1) := by decide +kernel
theorem dJ5_init_d00df_12 : decode cJ5_init_d00df 12 = .ok (.newarray .byte, 2) := by decide +kernel
theorem dJ5_init_d00df_14 : decode cJ5_init_d00df 14 = .ok (.putfield 15, 3) := by decide +kernel
theorem dJ5_init_d00df_17 : decode cJ5_init_d00df 17 = .ok (.aload_n 0, 1) := by decide +kernel
theorem dJ5_init_d00df_18 : decode cJ5_init_d00df 18 = .ok (.iconst 0, 1) := by decide +kernel
theorem dJ5_init_d00df_19 : decode cJ5_init_d00df 19 = .ok (.putfield 22, 3) := by decide +kernel
theorem dJ5_init_d00df_22 : decode cJ5_init_d00df 22 = .ok (.goto 16, 3) := by decide +kernel
theorem dJ5_init_d00df_25 : decode cJ5_init_d00df 25 = .ok (.aload_n 0, 1) := by decide +kernel
theorem dJ5_init_d00df_26 : decode cJ5_init_d00df 26 = .ok (.iload_n 1, 1) := by decide +kernel
theorem dJ5_init_d00df_27 : decode cJ5_init_d00df 27 = .ok (.invokestatic 26, 3) := by decide +kernel
theorem dJ5_init_d00df_30 : decode cJ5_init_d00df 30 = .ok (.putfield 15, 3) := by decide +kernel
theorem dJ5_init_d00df_33 : decode cJ5_init_d00df 33 = .ok (.aload_n 0, 1) := by decide +kernel
theorem dJ5_init_d00df_34 : decode cJ5_init_d00df 34 = .ok (.iconst 1, 1) := by decide +kernel
theorem dJ5_init_d00df_35 : decode cJ5_init_d00df 35 = .ok (.putfield 22, 3) := by decide +kernel
theorem dJ5_init_d00df_38 : decode cJ5_init_d00df 38 = .ok (.return_, 1) := by decide +kernel
theorem dJ4_init_da8c8_0 : decode cJ4_init_da8c8 0 = .ok (.aload_n 0, 1) := by decide +kernel
theorem dJ4_init_da8c8_1 : decode cJ4_init_da8c8 1 = .ok (.bipush 16, 2) := by decide +kernel
theorem dJ4_init_da8c8_3 : decode cJ4_init_da8c8 3 = .ok (.invokespecial 1, 3) := by decide +kernel
theorem dJ4_init_da8c8_6 : decode cJ4_init_da8c8 6 = .ok (.return_, 1) := by decide +kernel
theorem dX0_openWith_0 : decode cX0_openWith 0 = .ok (.aload_n 0, 1) := by decide +kernel
theorem dX0_openWith_1 : decode cX0_openWith 1 = .ok (.aload_n 1, 1) := by decide +kernel
theorem dX0_openWith_2 : decode cX0_openWith 2 = .ok (.putfield 31, 3) := by decide +kernel
theorem dX0_openWith_5 : decode cX0_openWith 5 = .ok (.aload_n 0, 1) := by decide +kernel
theorem dX0_openWith_6 : decode cX0_openWith 6 = .ok (.getfield 12, 3) := by decide +kernel
theorem dX0_openWith_9 : decode cX0_openWith 9 = .ok (.invokevirtual 35, 3) := by decide +kernel
theorem dX0_openWith_12 : decode cX0_openWith 12 = .ok (.iconst 0, 1) := by decide +kernel
theorem dX0_openWith_13 : decode cX0_openWith 13 = .ok (.istore_n 2, 1) := by decide +kernel
theorem dX0_openWith_14 : decode cX0_openWith 14 = .ok (.iload_n 2, 1) := by decide +kernel
theorem dX0_openWith_15 : decode cX0_openWith 15 = .ok (.bipush 10, 2) := by decide +kernel
theorem dX0_openWith_17 : decode cX0_openWith 17 = .ok (.if_icmp .ge 37, 3) := by decide +kernel
theorem dX0_openWith_20 : decode cX0_openWith 20 = .ok (.aload_n 0, 1) := by decide +kernel
theorem dX0_openWith_21 : decode cX0_openWith 21 = .ok (.getfield 18, 3) := by decide +kernel
theorem dX0_openWith_24 : decode cX0_openWith 24 = .ok (.iload_n 2, 1) := by decide +kernel
theorem dX0_openWith_25 : decode cX0_openWith 25 = .ok (.iconst 0, 1) := by decide +kernel
theorem dX0_openWith_26 : decode cX0_openWith 26 = .ok (.iastore, 1) := by decide +kernel
theorem dX0_openWith_27 : decode cX0_openWith 27 = .ok (.aload_n 0, 1) := by decide +kernel
theorem dX0_openWith_28 : decode cX0_openWith 28 = .ok (.getfield 22, 3) := by decide +kernel
theorem dX0_openWith_31 : decode cX0_openWith 31 = .ok (.iload_n 2, 1) := by decide +kernel
theorem dX0_openWith_32 : decode cX0_openWith 32 = .ok (.iconst 0, 1) := by decide +kernel
theorem dX0_openWith_33 : decode cX0_openWith 33 = .ok (.iastore, 1) := by decide +kernel
theorem dX0_openWith_34 : decode cX0_openWith 34 = .ok (.aload_n 0, 1) := by decide +kernel
theorem dX0_openWith_35 : decode cX0_openWith 35 = .ok (.getfield 25, 3) := by decide +kernel
theorem dX0_openWith_38 : decode cX0_openWith 38 = .ok (.iload_n 2, 1) := by decide +kernel
theorem dX0_openWith_39 : decode cX0_openWith 39 = .ok (.iconst 0, 1) := by decide +kernel
theorem dX0_openWith_40 : decode cX0_openWith 40 = .ok (.iastore, 1) := by decide +kernel
theorem dX0_openWith_41 : decode cX0_openWith 41 = .ok (.aload_n 0, 1) := by decide +kernel
theorem dX0_openWith_42 : decode cX0_openWith 42 = .ok (.getfield 28, 3) := by decide +kernel
theorem dX0_openWith_45 : decode cX0_openWith 45 = .ok (.iload_n 2, 1) := by decide +kernel
theorem dX0_openWith_46 : decode cX0_openWith 46 = .ok (.iconst (-1), 1) := by decide +kernel
theorem dX0_openWith_47 : decode cX0_openWith 47 = .ok (.iastore, 1) := by decide +kernel
theorem dX0_openWith_48 : decode cX0_openWith 48 = .ok (.iinc 2 1, 3) := by decide +kernel
theorem dX0_openWith_51 : decode cX0_openWith 51 = .ok (.goto (-37), 3) := by decide +kernel
theorem dX0_openWith_54 : decode cX0_openWith 54 = .ok (.aload_n 0, 1) := by decide +kernel
theorem dX0_openWith_55 : decode cX0_openWith 55 = .ok (.iconst 0, 1) := by decide +kernel
theorem dX0_openWith_56 : decode cX0_openWith 56 = .ok (.putfield 40, 3) := by decide +kernel
theorem dX0_openWith_59 : decode cX0_openWith 59 = .ok (.aload_n 0, 1) := by decide +kernel
theorem dX0_openWith_60 : decode cX0_openWith 60 = .ok (.iconst 0, 1) := by decide +kernel
theorem dX0_openWith_61 : decode cX0_openWith 61 = .ok (.putfield 44, 3) := by decide +kernel
theorem dX0_openWith_64 : decode cX0_openWith 64 = .ok (.aload_n 0, 1) := by decide +kernel
theorem dX0_openWith_65 : decode cX0_openWith 65 = .ok (.iconst 0, 1) := by decide +kernel
theorem dX0_openWith_66 : decode cX0_openWith 66 = .ok (.putfield 47, 3) := by decide +kernel
theorem dX0_openWith_69 : decode cX0_openWith 69 = .ok (.aload_n 0, 1) := by decide +kernel
theorem dX0_openWith_70 : decode cX0_openWith 70 = .ok (.lconst 0, 1) := by decide +kernel
theorem dX0_openWith_71 : decode cX0_openWith 71 = .ok (.putfield 50, 3) := by decide +kernel
theorem dX0_openWith_74 : decode cX0_openWith 74 = .ok (.aload_n 0, 1) := by decide +kernel
theorem dX0_openWith_75 : decode cX0_openWith 75 = .ok (.lconst 0, 1) := by decide +kernel
theorem dX0_openWith_76 : decode cX0_openWith 76 = .ok (.putfield 54, 3) := by decide +kernel
theorem dX0_openWith_79 : decode cX0_openWith 79 = .ok (.aload_n 0, 1) := by decide +kernel
theorem dX0_openWith_80 : decode cX0_openWith 80 = .ok (.lconst 0, 1) := by decide +kernel
theorem dX0_openWith_81 : decode cX0_openWith 81 = .ok (.putfield 57, 3) := by decide +kernel
theorem dX0_openWith_84 : decode cX0_openWith 84 = .ok (.aload_n 0, 1) := by decide +kernel
theorem dX0_openWith_85 : decode cX0_openWith 85 = .ok (.iconst 0, 1) := by decide +kernel
theorem dX0_openWith_86 : decode cX0_openWith 86 = .ok (.putfield 60, 3) := by decide +kernel
theorem dX0_openWith_89 : decode cX0_openWith 89 = .ok (.aload_n 0, 1) := by decide +kernel
theorem dX0_openWith_90 : decode cX0_openWith 90 = .ok (.iconst 0, 1) := by decide +kernel
theorem dX0_openWith_91 : decode cX0_openWith 91 = .ok (.putfield 63, 3) := by decide +kernel
theorem dX0_openWith_94 : decode cX0_openWith 94 = .ok (.aload_n 0, 1) := by decide +kernel
theorem dX0_openWith_95 : decode cX0_openWith 95 = .ok (.iconst 0, 1) := by decide +kernel
theorem dX0_openWith_96 : decode cX0_openWith 96 = .ok (.putfield 66, 3) := by decide +kernel
theorem dX0_openWith_99 : decode cX0_openWith 99 = .ok (.aload_n 0, 1) := by decide +kernel
theorem dX0_openWith_100 : decode cX0_openWith 100 = .ok (.aload_n 0, 1) := by decide +kernel
theorem dX0_openWith_101 : decode cX0_openWith 101 = .ok (.getfield 31, 3) := by decide +kernel
theorem dX0_openWith_104 : decode cX0_openWith 104 = .ok (.getfield 69, 3) := by decide +kernel
theorem dX0_openWith_107 : decode cX0_openWith 107 = .ok (.putfield 74, 3) := by decide +kernel
theorem dX0_openWith_110 : decode cX0_openWith 110 = .ok (.aload_n 0, 1) := by decide +kernel
theorem dX0_openWith_111 : decode cX0_openWith 111 = .ok (.aload_n 0, 1) := by decide +kernel
theorem dX0_openWith_112 : decode cX0_openWith 112 = .ok (.getfield 31, 3) := by decide +kernel
theorem dX0_openWith_115 : decode cX0_openWith 115 = .ok (.getfield 75, 3) := by decide +kernel
theorem dX0_openWith_118 : decode cX0_openWith 118 = .ok (.putfield 78, 3) := by decide +kernel
theorem dX0_openWith_121 : decode cX0_openWith 121 = .ok (.aload_n 0, 1) := by decide +kernel
theorem dX0_openWith_122 : decode cX0_openWith 122 = .ok (.aload_n 0, 1) := by decide +kernel
theorem dX0_openWith_123 : decode cX0_openWith 123 = .ok (.getfield 31, 3) := by decide +kernel
theorem dX0_openWith_126 : decode cX0_openWith 126 = .ok (.getfield 79, 3) := by decide +kernel
theorem dX0_openWith_129 : decode cX0_openWith 129 = .ok (.putfield 82, 3) := by decide +kernel
theorem dX0_openWith_132 : decode cX0_openWith 132 = .ok (.aload_n 0, 1) := by decide +kernel
theorem dX0_openWith_133 : decode cX0_openWith 133 = .ok (.iconst 0, 1) := by decide +kernel
theorem dX0_openWith_134 : decode cX0_openWith 134 = .ok (.putfield 83, 3) := by decide +kernel
theorem dX0_openWith_137 : decode cX0_openWith 137 = .ok (.aload_n 0, 1) := by decide +kernel
theorem dX0_openWith_138 : decode cX0_openWith 138 = .ok (.iconst 0, 1) := by decide +kernel
theorem dX0_openWith_139 : decode cX0_openWith 139 = .ok (.putfield 86, 3) := by decide +kernel
theorem dX0_openWith_142 : decode cX0_openWith 142 = .ok (.iconst 0, 1) := by decide +kernel
theorem dX0_openWith_143 : decode cX0_openWith 143 = .ok (.istore_n 2, 1) := by decide +kernel
theorem dX0_openWith_144 : decode cX0_openWith 144 = .ok (.iload_n 2, 1) := by decide +kernel
theorem dX0_openWith_145 : decode cX0_openWith 145 = .ok (.aload_n 0, 1) := by decide +kernel
theorem dX0_openWith_146 : decode cX0_openWith 146 = .ok (.getfield 31, 3) := by decide +kernel
theorem dX0_openWith_149 : decode cX0_openWith 149 = .ok (.getfield 89, 3) := by decide +kernel
theorem dX0_openWith_152 : decode cX0_openWith 152 = .ok (.if_icmp .ge 22, 3) := by decide +kernel
theorem dX0_openWith_155 : decode cX0_openWith 155 = .ok (.aload_n 0, 1) := by decide +kernel
theorem dX0_openWith_156 : decode cX0_openWith 156 = .ok (.aload_n 0, 1) := by decide +kernel
theorem dX0_openWith_157 : decode cX0_openWith 157 = .ok (.getfield 31, 3) := by decide +kernel
theorem dX0_openWith_160 : decode cX0_openWith 160 = .ok (.getfield 92, 3) := by decide +kernel
theorem dX0_openWith_163 : decode cX0_openWith 163 = .ok (.iload_n 2, 1) := by decide +kernel
theorem dX0_openWith_164 : decode cX0_openWith 164 = .ok (.iaload, 1) := by decide +kernel
theorem dX0_openWith_165 : decode cX0_openWith 165 = .ok (.invokevirtual 95, 3) := by decide +kernel
theorem dX0_openWith_168 : decode cX0_openWith 168 = .ok (.iinc 2 1, 3) := by decide +kernel
theorem dX0_openWith_171 : decode cX0_openWith 171 = .ok (.goto (-27), 3) := by decide +kernel
theorem dX0_openWith_174 : decode cX0_openWith 174 = .ok (.return_, 1) := by decide +kernel
theorem dX1_init_0 : decode cX1_init 0 = .ok (.aload_n 0, 1) := by decide +kernel
theorem dX1_init_1 : decode cX1_init 1 = .ok (.invokespecial 3, 3) := by decide +kernel
theorem dX1_init_4 : decode cX1_init 4 = .ok (.aload_n 0, 1) := by decide +kernel
theorem dX1_init_5 : decode cX1_init 5 = .ok (.bipush 10, 2) := by decide +kernel
theorem dX1_init_7 : decode cX1_init 7 = .ok (.anewarray 11, 3) := by decide +kernel
theorem dX1_init_10 : decode cX1_init 10 = .ok (.putfield 13, 3) := by decide +kernel
theorem dX1_init_13 : decode cX1_init 13 = .ok (.iconst 0, 1) := by decide +kernel
theorem dX1_init_14 : decode cX1_init 14 = .ok (.istore_n 2, 1) := by decide +kernel
theorem dX1_init_15 : decode cX1_init 15 = .ok (.iload_n 2, 1) := by decide +kernel
theorem dX1_init_16 : decode cX1_init 16 = .ok (.bipush 10, 2) := by decide +kernel
theorem dX1_init_18 : decode cX1_init 18 = .ok (.if_icmp .ge 23, 3) := by decide +kernel
theorem dX1_init_21 : decode cX1_init 21 = .ok (.aload_n 0, 1) := by decide +kernel
theorem dX1_init_22 : decode cX1_init 22 = .ok (.getfield 13, 3) := by decide +kernel
theorem dX1_init_25 : decode cX1_init 25 = .ok (.iload_n 2, 1) := by decide +kernel
theorem dX1_init_26 : decode cX1_init 26 = .ok (.new 11, 3) := by decide +kernel
theorem dX1_init_29 : decode cX1_init 29 = .ok (.dup, 1) := by decide +kernel
theorem dX1_init_30 : decode cX1_init 30 = .ok (.aload_n 1, 1) := by decide +kernel
theorem dX1_init_31 : decode cX1_init 31 = .ok (.invokespecial 17, 3) := by decide +kernel
theorem dX1_init_34 : decode cX1_init 34 = .ok (.aastore, 1) := by decide +kernel
theorem dX1_init_35 : decode cX1_init 35 = .ok (.iinc 2 1, 3) := by decide +kernel
theorem dX1_init_38 : decode cX1_init 38 = .ok (.goto (-23), 3) := by decide +kernel
theorem dX1_init_41 : decode cX1_init 41 = .ok (.return_, 1) := by decide +kernel
theorem dX9_init_0 : decode cX9_init 0 = .ok (.aload_n 0, 1) := by decide +kernel
theorem dX9_init_1 : decode cX9_init 1 = .ok (.invokespecial 1, 3) := by decide +kernel
theorem dX9_init_4 : decode cX9_init 4 = .ok (.aload_n 0, 1) := by decide +kernel
theorem dX9_init_5 : decode cX9_init 5 = .ok (.sipush 700, 3) := by decide +kernel
theorem dX9_init_8 : decode cX9_init 8 = .ok (.newarray .char, 2) := by decide +kernel
theorem dX9_init_10 : decode cX9_init 10 = .ok (.putfield 9, 3) := by decide +kernel
theorem dX9_init_13 : decode cX9_init 13 = .ok (.aload_n 0, 1) := by decide +kernel
theorem dX9_init_14 : decode cX9_init 14 = .ok (.new 13, 3) := by decide +kernel
theorem dX9_init_17 : decode cX9_init 17 = .ok (.dup, 1) := by decide +kernel
theorem dX9_init_18 : decode cX9_init 18 = .ok (.invokespecial 15, 3) := by decide +kernel
theorem dX9_init_21 : decode cX9_init 21 = .ok (.putfield 16, 3) := by decide +kernel
theorem dX9_init_24 : decode cX9_init 24 = .ok (.aload_n 0, 1) := by decide +kernel
theorem dX9_init_25 : decode cX9_init 25 = .ok (.new 13, 3) := by decide +kernel
theorem dX9_init_28 : decode cX9_init 28 = .ok (.dup, 1) := by decide +kernel
theorem dX9_init_29 : decode cX9_init 29 = .ok (.invokespecial 15, 3) := by decide +kernel
theorem dX9_init_32 : decode cX9_init 32 = .ok (.putfield 20, 3) := by decide +kernel
theorem dX9_init_35 : decode cX9_init 35 = .ok (.aload_n 0, 1) := by decide +kernel
theorem dX9_init_36 : decode cX9_init 36 = .ok (.new 23, 3) := by decide +kernel
theorem dX9_init_39 : decode cX9_init 39 = .ok (.dup, 1) := by decide +kernel
theorem dX9_init_40 : decode cX9_init 40 = .ok (.aload_n 0, 1) := by decide +kernel
theorem dX9_init_41 : decode cX9_init 41 = .ok (.getfield 20, 3) := by decide +kernel
theorem dX9_init_44 : decode cX9_init 44 = .ok (.invokespecial 25, 3) := by decide +kernel
theorem dX9_init_47 : decode cX9_init 47 = .ok (.putfield 28, 3) := by decide +kernel
theorem dX9_init_50 : decode cX9_init 50 = .ok (.aload_n 0, 1) := by decide +kernel
theorem dX9_init_51 : decode cX9_init 51 = .ok (.new 32, 3) := by decide +kernel
theorem dX9_init_54 : decode cX9_init 54 = .ok (.dup, 1) := by decide +kernel
theorem dX9_init_55 : decode cX9_init 55 = .ok (.aload_n 0, 1) := by decide +kernel
theorem dX9_init_56 : decode cX9_init 56 = .ok (.getfield 16, 3) := by decide +kernel
theorem dX9_init_59 : decode cX9_init 59 = .ok (.invokespecial 34, 3) := by decide +kernel
theorem dX9_init_62 : decode cX9_init 62 = .ok (.putfield 35, 3) := by decide +kernel
theorem dX9_init_65 : decode cX9_init 65 = .ok (.aload_n 0, 1) := by decide +kernel
theorem dX9_init_66 : decode cX9_init 66 = .ok (.new 32, 3) := by decide +kernel
theorem dX9_init_69 : decode cX9_init 69 = .ok (.dup, 1) := by decide +kernel
theorem dX9_init_70 : decode cX9_init 70 = .ok (.aload_n 0, 1) := by decide +kernel
theorem dX9_init_71 : decode cX9_init 71 = .ok (.getfield 16, 3) := by decide +kernel
theorem dX9_init_74 : decode cX9_init 74 = .ok (.invokespecial 34, 3) := by decide +kernel
theorem dX9_init_77 : decode cX9_init 77 = .ok (.putfield 39, 3) := by decide +kernel
theorem dX9_init_80 : decode cX9_init 80 = .ok (.aload_n 0, 1) := by decide +kernel
theorem dX9_init_81 : decode cX9_init 81 = .ok (.new 42, 3) := by decide +kernel
theorem dX9_init_84 : decode cX9_init 84 = .ok (.dup, 1) := by decide +kernel
theorem dX9_init_85 : decode cX9_init 85 = .ok (.aload_n 0, 1) := by decide +kernel
theorem dX9_init_86 : decode cX9_init 86 = .ok (.getfield 16, 3) := by decide +kernel
theorem dX9_init_89 : decode cX9_init 89 = .ok (.invokespecial 44, 3) := by decide +kernel
theorem dX9_init_92 : decode cX9_init 92 = .ok (.putfield 45, 3) := by decide +kernel
theorem dX9_init_95 : decode cX9_init 95 = .ok (.aload_n 0, 1) := by decide +kernel
theorem dX9_init_96 : decode cX9_init 96 = .ok (.new 49, 3) := by decide +kernel
theorem dX9_init_99 : decode cX9_init 99 = .ok (.dup, 1) := by decide +kernel
theorem dX9_init_100 : decode cX9_init 100 = .ok (.invokespecial 51, 3) := by decide +kernel
theorem dX9_init_103 : decode cX9_init 103 = .ok (.putfield 52, 3) := by decide +kernel
theorem dX9_init_106 : decode cX9_init 106 = .ok (.aload_n 0, 1) := by decide +kernel
theorem dX9_init_107 : decode cX9_init 107 = .ok (.getfield 35, 3) := by decide +kernel
theorem dX9_init_110 : decode cX9_init 110 = .ok (.aload_n 0, 1) := by decide +kernel
theorem dX9_init_111 : decode cX9_init 111 = .ok (.getfield 16, 3) := by decide +kernel
theorem dX9_init_114 : decode cX9_init 114 = .ok (.invokevirtual 56, 3) := by decide +kernel
theorem dX9_init_117 : decode cX9_init 117 = .ok (.return_, 1) := by decide +kernel
