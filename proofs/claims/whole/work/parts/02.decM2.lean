theorem dX7_rightOf_49 : decode cX7_rightOf 49 = .ok (.iload 7, 2) := by decide +kernel
theorem dX7_rightOf_51 : decode cX7_rightOf 51 = .ok (.isub, 1) := by decide +kernel
theorem dX7_rightOf_52 : decode cX7_rightOf 52 = .ok (.sipush 182, 3) := by decide +kernel
theorem dX7_rightOf_55 : decode cX7_rightOf 55 = .ok (.if_icmp .gt 15, 3) := by decide +kernel
theorem dX7_rightOf_58 : decode cX7_rightOf 58 = .ok (.iload 5, 2) := by decide +kernel
theorem dX7_rightOf_60 : decode cX7_rightOf 60 = .ok (.iload 7, 2) := by decide +kernel
theorem dX7_rightOf_62 : decode cX7_rightOf 62 = .ok (.if_icmp .gt 8, 3) := by decide +kernel
theorem dX7_rightOf_65 : decode cX7_rightOf 65 = .ok (.iload 7, 2) := by decide +kernel
theorem dX7_rightOf_67 : decode cX7_rightOf 67 = .ok (.goto 10, 3) := by decide +kernel
theorem dX7_rightOf_70 : decode cX7_rightOf 70 = .ok (.aload_n 0, 1) := by decide +kernel
theorem dX7_rightOf_71 : decode cX7_rightOf 71 = .ok (.getfield 58, 3) := by decide +kernel
theorem dX7_rightOf_74 : decode cX7_rightOf 74 = .ok (.iload 6, 2) := by decide +kernel
theorem dX7_rightOf_76 : decode cX7_rightOf 76 = .ok (.iaload, 1) := by decide +kernel
theorem dX7_rightOf_77 : decode cX7_rightOf 77 = .ok (.istore 8, 2) := by decide +kernel
theorem dX7_rightOf_79 : decode cX7_rightOf 79 = .ok (.iload 8, 2) := by decide +kernel
theorem dX7_rightOf_81 : decode cX7_rightOf 81 = .ok (.iload 5, 2) := by decide +kernel
theorem dX7_rightOf_83 : decode cX7_rightOf 83 = .ok (.if_icmp .ge 8, 3) := by decide +kernel
theorem dX7_rightOf_86 : decode cX7_rightOf 86 = .ok (.iload 5, 2) := by decide +kernel
theorem dX7_rightOf_88 : decode cX7_rightOf 88 = .ok (.goto 5, 3) := by decide +kernel
theorem dX7_rightOf_91 : decode cX7_rightOf 91 = .ok (.iload 8, 2) := by decide +kernel
theorem dX7_rightOf_93 : decode cX7_rightOf 93 = .ok (.ireturn, 1) := by decide +kernel
theorem dX7_stands_0 : decode cX7_stands 0 = .ok (.aload_n 0, 1) := by decide +kernel
theorem dX7_stands_1 : decode cX7_stands 1 = .ok (.iload_n 1, 1) := by decide +kernel
theorem dX7_stands_2 : decode cX7_stands 2 = .ok (.iload_n 2, 1) := by decide +kernel
theorem dX7_stands_3 : decode cX7_stands 3 = .ok (.iload_n 3, 1) := by decide +kernel
theorem dX7_stands_4 : decode cX7_stands 4 = .ok (.iload 4, 2) := by decide +kernel
theorem dX7_stands_6 : decode cX7_stands 6 = .ok (.invokevirtual 158, 3) := by decide +kernel
theorem dX7_stands_9 : decode cX7_stands 9 = .ok (.istore 5, 2) := by decide +kernel
theorem dX7_stands_11 : decode cX7_stands 11 = .ok (.iload 5, 2) := by decide +kernel
theorem dX7_stands_13 : decode cX7_stands 13 = .ok (.ifCond .lt 30, 3) := by decide +kernel
theorem dX7_stands_16 : decode cX7_stands 16 = .ok (.iload 5, 2) := by decide +kernel
theorem dX7_stands_18 : decode cX7_stands 18 = .ok (.iload 4, 2) := by decide +kernel
theorem dX7_stands_20 : decode cX7_stands 20 = .ok (.if_icmp .gt 23, 3) := by decide +kernel
theorem dX7_stands_23 : decode cX7_stands 23 = .ok (.aload_n 0, 1) := by decide +kernel
theorem dX7_stands_24 : decode cX7_stands 24 = .ok (.iload_n 1, 1) := by decide +kernel
theorem dX7_stands_25 : decode cX7_stands 25 = .ok (.iload 4, 2) := by decide +kernel
theorem dX7_stands_27 : decode cX7_stands 27 = .ok (.invokevirtual 161, 3) := by decide +kernel
theorem dX7_stands_30 : decode cX7_stands 30 = .ok (.ifCond .ne 13, 3) := by decide +kernel
theorem dX7_stands_33 : decode cX7_stands 33 = .ok (.aload_n 0, 1) := by decide +kernel
theorem dX7_stands_34 : decode cX7_stands 34 = .ok (.iload_n 1, 1) := by decide +kernel
theorem dX7_stands_35 : decode cX7_stands 35 = .ok (.iload 4, 2) := by decide +kernel
theorem dX7_stands_37 : decode cX7_stands 37 = .ok (.invokevirtual 164, 3) := by decide +kernel
theorem dX7_stands_40 : decode cX7_stands 40 = .ok (.ifCond .eq 5, 3) := by decide +kernel
theorem dX7_stands_43 : decode cX7_stands 43 = .ok (.iconst 0, 1) := by decide +kernel
theorem dX7_stands_44 : decode cX7_stands 44 = .ok (.ireturn, 1) := by decide +kernel
theorem dX7_stands_45 : decode cX7_stands 45 = .ok (.aload_n 0, 1) := by decide +kernel
theorem dX7_stands_46 : decode cX7_stands 46 = .ok (.bipush 6, 2) := by decide +kernel
theorem dX7_stands_48 : decode cX7_stands 48 = .ok (.iload_n 1, 1) := by decide +kernel
theorem dX7_stands_49 : decode cX7_stands 49 = .ok (.iload_n 2, 1) := by decide +kernel
theorem dX7_stands_50 : decode cX7_stands 50 = .ok (.iload 4, 2) := by decide +kernel
theorem dX7_stands_52 : decode cX7_stands 52 = .ok (.invokevirtual 138, 3) := by decide +kernel
theorem dX7_stands_55 : decode cX7_stands 55 = .ok (.istore 6, 2) := by decide +kernel
theorem dX7_stands_57 : decode cX7_stands 57 = .ok (.iload 6, 2) := by decide +kernel
theorem dX7_stands_59 : decode cX7_stands 59 = .ok (.ifCond .lt 25, 3) := by decide +kernel
theorem dX7_stands_62 : decode cX7_stands 62 = .ok (.aload_n 0, 1) := by decide +kernel
theorem dX7_stands_63 : decode cX7_stands 63 = .ok (.getfield 58, 3) := by decide +kernel
theorem dX7_stands_66 : decode cX7_stands 66 = .ok (.iload 6, 2) := by decide +kernel
theorem dX7_stands_68 : decode cX7_stands 68 = .ok (.iaload, 1) := by decide +kernel
theorem dX7_stands_69 : decode cX7_stands 69 = .ok (.iload 5, 2) := by decide +kernel
theorem dX7_stands_71 : decode cX7_stands 71 = .ok (.if_icmp .le 13, 3) := by decide +kernel
theorem dX7_stands_74 : decode cX7_stands 74 = .ok (.aload_n 0, 1) := by decide +kernel
theorem dX7_stands_75 : decode cX7_stands 75 = .ok (.getfield 58, 3) := by decide +kernel
theorem dX7_stands_78 : decode cX7_stands 78 = .ok (.iload 6, 2) := by decide +kernel
theorem dX7_stands_80 : decode cX7_stands 80 = .ok (.iaload, 1) := by decide +kernel
theorem dX7_stands_81 : decode cX7_stands 81 = .ok (.goto 5, 3) := by decide +kernel
theorem dX7_stands_84 : decode cX7_stands 84 = .ok (.iload 5, 2) := by decide +kernel
theorem dX7_stands_86 : decode cX7_stands 86 = .ok (.istore 7, 2) := by decide +kernel
theorem dX7_stands_88 : decode cX7_stands 88 = .ok (.iload 4, 2) := by decide +kernel
theorem dX7_stands_90 : decode cX7_stands 90 = .ok (.iload 7, 2) := by decide +kernel
theorem dX7_stands_92 : decode cX7_stands 92 = .ok (.isub, 1) := by decide +kernel
theorem dX7_stands_93 : decode cX7_stands 93 = .ok (.sipush 1825, 3) := by decide +kernel
theorem dX7_stands_96 : decode cX7_stands 96 = .ok (.if_icmp .gt 7, 3) := by decide +kernel
theorem dX7_stands_99 : decode cX7_stands 99 = .ok (.iconst 1, 1) := by decide +kernel
theorem dX7_stands_100 : decode cX7_stands 100 = .ok (.goto 4, 3) := by decide +kernel
theorem dX7_stands_103 : decode cX7_stands 103 = .ok (.iconst 0, 1) := by decide +kernel
theorem dX7_stands_104 : decode cX7_stands 104 = .ok (.ireturn, 1) := by decide +kernel
theorem dX7_goodsInto_0 : decode cX7_goodsInto 0 = .ok (.iconst 0, 1) := by decide +kernel
theorem dX7_goodsInto_1 : decode cX7_goodsInto 1 = .ok (.istore 4, 2) := by decide +kernel
theorem dX7_goodsInto_3 : decode cX7_goodsInto 3 = .ok (.iconst 0, 1) := by decide +kernel
theorem dX7_goodsInto_4 : decode cX7_goodsInto 4 = .ok (.istore 5, 2) := by decide +kernel
theorem dX7_goodsInto_6 : decode cX7_goodsInto 6 = .ok (.iload 5, 2) := by decide +kernel
theorem dX7_goodsInto_8 : decode cX7_goodsInto 8 = .ok (.aload_n 0, 1) := by decide +kernel
theorem dX7_goodsInto_9 : decode cX7_goodsInto 9 = .ok (.getfield 105, 3) := by decide +kernel
theorem dX7_goodsInto_12 : decode cX7_goodsInto 12 = .ok (.if_icmp .ge 157, 3) := by decide +kernel
theorem dX7_goodsInto_15 : decode cX7_goodsInto 15 = .ok (.aload_n 0, 1) := by decide +kernel
theorem dX7_goodsInto_16 : decode cX7_goodsInto 16 = .ok (.getfield 49, 3) := by decide +kernel
theorem dX7_goodsInto_19 : decode cX7_goodsInto 19 = .ok (.iload 5, 2) := by decide +kernel
theorem dX7_goodsInto_21 : decode cX7_goodsInto 21 = .ok (.iaload, 1) := by decide +kernel
theorem dX7_goodsInto_22 : decode cX7_goodsInto 22 = .ok (.ifCond .ne 141, 3) := by decide +kernel
theorem dX7_goodsInto_25 : decode cX7_goodsInto 25 = .ok (.aload_n 0, 1) := by decide +kernel
theorem dX7_goodsInto_26 : decode cX7_goodsInto 26 = .ok (.getfield 52, 3) := by decide +kernel
theorem dX7_goodsInto_29 : decode cX7_goodsInto 29 = .ok (.iload 5, 2) := by decide +kernel
theorem dX7_goodsInto_31 : decode cX7_goodsInto 31 = .ok (.iaload, 1) := by decide +kernel
theorem dX7_goodsInto_32 : decode cX7_goodsInto 32 = .ok (.iload_n 1, 1) := by decide +kernel
theorem dX7_goodsInto_33 : decode cX7_goodsInto 33 = .ok (.if_icmp .ne 130, 3) := by decide +kernel
theorem dX7_goodsInto_36 : decode cX7_goodsInto 36 = .ok (.aload_n 0, 1) := by decide +kernel
theorem dX7_goodsInto_37 : decode cX7_goodsInto 37 = .ok (.getfield 58, 3) := by decide +kernel
theorem dX7_goodsInto_40 : decode cX7_goodsInto 40 = .ok (.iload 5, 2) := by decide +kernel
theorem dX7_goodsInto_42 : decode cX7_goodsInto 42 = .ok (.iaload, 1) := by decide +kernel
theorem dX7_goodsInto_43 : decode cX7_goodsInto 43 = .ok (.iload_n 2, 1) := by decide +kernel
theorem dX7_goodsInto_44 : decode cX7_goodsInto 44 = .ok (.if_icmp .le 6, 3) := by decide +kernel
theorem dX7_goodsInto_47 : decode cX7_goodsInto 47 = .ok (.goto 116, 3) := by decide +kernel
theorem dX7_goodsInto_50 : decode cX7_goodsInto 50 = .ok (.aload_n 0, 1) := by decide +kernel
theorem dX7_goodsInto_51 : decode cX7_goodsInto 51 = .ok (.getfield 55, 3) := by decide +kernel
theorem dX7_goodsInto_54 : decode cX7_goodsInto 54 = .ok (.iload 5, 2) := by decide +kernel
theorem dX7_goodsInto_56 : decode cX7_goodsInto 56 = .ok (.iaload, 1) := by decide +kernel
theorem dX7_goodsInto_57 : decode cX7_goodsInto 57 = .ok (.istore 6, 2) := by decide +kernel
theorem dX7_goodsInto_59 : decode cX7_goodsInto 59 = .ok (.iconst 0, 1) := by decide +kernel
theorem dX7_goodsInto_60 : decode cX7_goodsInto 60 = .ok (.istore 7, 2) := by decide +kernel
theorem dX7_goodsInto_62 : decode cX7_goodsInto 62 = .ok (.iconst 0, 1) := by decide +kernel
theorem dX7_goodsInto_63 : decode cX7_goodsInto 63 = .ok (.istore 8, 2) := by decide +kernel
theorem dX7_goodsInto_65 : decode cX7_goodsInto 65 = .ok (.iload 8, 2) := by decide +kernel
theorem dX7_goodsInto_67 : decode cX7_goodsInto 67 = .ok (.iload 4, 2) := by decide +kernel
theorem dX7_goodsInto_69 : decode cX7_goodsInto 69 = .ok (.if_icmp .ge 30, 3) := by decide +kernel
theorem dX7_goodsInto_72 : decode cX7_goodsInto 72 = .ok (.iload 7, 2) := by decide +kernel
theorem dX7_goodsInto_74 : decode cX7_goodsInto 74 = .ok (.ifCond .ne 12, 3) := by decide +kernel
theorem dX7_goodsInto_77 : decode cX7_goodsInto 77 = .ok (.aload_n 3, 1) := by decide +kernel
theorem dX7_goodsInto_78 : decode cX7_goodsInto 78 = .ok (.iload 8, 2) := by decide +kernel
theorem dX7_goodsInto_80 : decode cX7_goodsInto 80 = .ok (.iaload, 1) := by decide +kernel
theorem dX7_goodsInto_81 : decode cX7_goodsInto 81 = .ok (.iload 6, 2) := by decide +kernel
theorem dX7_goodsInto_83 : decode cX7_goodsInto 83 = .ok (.if_icmp .ne 7, 3) := by decide +kernel
theorem dX7_goodsInto_86 : decode cX7_goodsInto 86 = .ok (.iconst 1, 1) := by decide +kernel
theorem dX7_goodsInto_87 : decode cX7_goodsInto 87 = .ok (.goto 4, 3) := by decide +kernel
theorem dX7_goodsInto_90 : decode cX7_goodsInto 90 = .ok (.iconst 0, 1) := by decide +kernel
theorem dX7_goodsInto_91 : decode cX7_goodsInto 91 = .ok (.istore 7, 2) := by decide +kernel
theorem dX7_goodsInto_93 : decode cX7_goodsInto 93 = .ok (.iinc 8 1, 3) := by decide +kernel
theorem dX7_goodsInto_96 : decode cX7_goodsInto 96 = .ok (.goto (-31), 3) := by decide +kernel
theorem dX7_goodsInto_99 : decode cX7_goodsInto 99 = .ok (.iload 7, 2) := by decide +kernel
theorem dX7_goodsInto_101 : decode cX7_goodsInto 101 = .ok (.ifCond .ne 62, 3) := by decide +kernel
theorem dX7_goodsInto_104 : decode cX7_goodsInto 104 = .ok (.aload_n 0, 1) := by decide +kernel
theorem dX7_goodsInto_105 : decode cX7_goodsInto 105 = .ok (.iload_n 1, 1) := by decide +kernel
theorem dX7_goodsInto_106 : decode cX7_goodsInto 106 = .ok (.iload 6, 2) := by decide +kernel
theorem dX7_goodsInto_108 : decode cX7_goodsInto 108 = .ok (.iload_n 2, 1) := by decide +kernel
theorem dX7_goodsInto_109 : decode cX7_goodsInto 109 = .ok (.invokevirtual 155, 3) := by decide +kernel
theorem dX7_goodsInto_112 : decode cX7_goodsInto 112 = .ok (.ifCond .ge 6, 3) := by decide +kernel
theorem dX7_goodsInto_115 : decode cX7_goodsInto 115 = .ok (.goto 48, 3) := by decide +kernel
theorem dX7_goodsInto_118 : decode cX7_goodsInto 118 = .ok (.iload 4, 2) := by decide +kernel
theorem dX7_goodsInto_120 : decode cX7_goodsInto 120 = .ok (.istore 8, 2) := by decide +kernel
theorem dX7_goodsInto_122 : decode cX7_goodsInto 122 = .ok (.iload 8, 2) := by decide +kernel
theorem dX7_goodsInto_124 : decode cX7_goodsInto 124 = .ok (.ifCond .le 30, 3) := by decide +kernel
theorem dX7_goodsInto_127 : decode cX7_goodsInto 127 = .ok (.aload_n 3, 1) := by decide +kernel
theorem dX7_goodsInto_128 : decode cX7_goodsInto 128 = .ok (.iload 8, 2) := by decide +kernel
theorem dX7_goodsInto_130 : decode cX7_goodsInto 130 = .ok (.iconst 1, 1) := by decide +kernel
theorem dX7_goodsInto_131 : decode cX7_goodsInto 131 = .ok (.isub, 1) := by decide +kernel
theorem dX7_goodsInto_132 : decode cX7_goodsInto 132 = .ok (.iaload, 1) := by decide +kernel
theorem dX7_goodsInto_133 : decode cX7_goodsInto 133 = .ok (.iload 6, 2) := by decide +kernel
theorem dX7_goodsInto_135 : decode cX7_goodsInto 135 = .ok (.if_icmp .le 19, 3) := by decide +kernel
theorem dX7_goodsInto_138 : decode cX7_goodsInto 138 = .ok (.aload_n 3, 1) := by decide +kernel
theorem dX7_goodsInto_139 : decode cX7_goodsInto 139 = .ok (.iload 8, 2) := by decide +kernel
theorem dX7_goodsInto_141 : decode cX7_goodsInto 141 = .ok (.aload_n 3, 1) := by decide +kernel
theorem dX7_goodsInto_142 : decode cX7_goodsInto 142 = .ok (.iload 8, 2) := by decide +kernel
theorem dX7_goodsInto_144 : decode cX7_goodsInto 144 = .ok (.iconst 1, 1) := by decide +kernel
theorem dX7_goodsInto_145 : decode cX7_goodsInto 145 = .ok (.isub, 1) := by decide +kernel
theorem dX7_goodsInto_146 : decode cX7_goodsInto 146 = .ok (.iaload, 1) := by decide +kernel
theorem dX7_goodsInto_147 : decode cX7_goodsInto 147 = .ok (.iastore, 1) := by decide +kernel
theorem dX7_goodsInto_148 : decode cX7_goodsInto 148 = .ok (.iinc 8 (-1), 3) := by decide +kernel
theorem dX7_goodsInto_151 : decode cX7_goodsInto 151 = .ok (.goto (-29), 3) := by decide +kernel
theorem dX7_goodsInto_154 : decode cX7_goodsInto 154 = .ok (.aload_n 3, 1) := by decide +kernel
theorem dX7_goodsInto_155 : decode cX7_goodsInto 155 = .ok (.iload 8, 2) := by decide +kernel
theorem dX7_goodsInto_157 : decode cX7_goodsInto 157 = .ok (.iload 6, 2) := by decide +kernel
theorem dX7_goodsInto_159 : decode cX7_goodsInto 159 = .ok (.iastore, 1) := by decide +kernel
theorem dX7_goodsInto_160 : decode cX7_goodsInto 160 = .ok (.iinc 4 1, 3) := by decide +kernel
theorem dX7_goodsInto_163 : decode cX7_goodsInto 163 = .ok (.iinc 5 1, 3) := by decide +kernel
theorem dX7_goodsInto_166 : decode cX7_goodsInto 166 = .ok (.goto (-160), 3) := by decide +kernel
theorem dX7_goodsInto_169 : decode cX7_goodsInto 169 = .ok (.iload 4, 2) := by decide +kernel
theorem dX7_goodsInto_171 : decode cX7_goodsInto 171 = .ok (.ireturn, 1) := by decide +kernel
theorem dX7_isNear_0 : decode cX7_isNear 0 = .ok (.aload_n 0, 1) := by decide +kernel
theorem dX7_isNear_1 : decode cX7_isNear 1 = .ok (.iload_n 2, 1) := by decide +kernel
theorem dX7_isNear_2 : decode cX7_isNear 2 = .ok (.iload_n 3, 1) := by decide +kernel
theorem dX7_isNear_3 : decode cX7_isNear 3 = .ok (.invokevirtual 167, 3) := by decide +kernel
theorem dX7_isNear_6 : decode cX7_isNear 6 = .ok (.aload_n 0, 1) := by decide +kernel
theorem dX7_isNear_7 : decode cX7_isNear 7 = .ok (.getfield 80, 3) := by decide +kernel
theorem dX7_isNear_10 : decode cX7_isNear 10 = .ok (.if_icmp .ge 16, 3) := by decide +kernel
theorem dX7_isNear_13 : decode cX7_isNear 13 = .ok (.aload_n 0, 1) := by decide +kernel
theorem dX7_isNear_14 : decode cX7_isNear 14 = .ok (.bipush 7, 2) := by decide +kernel
theorem dX7_isNear_16 : decode cX7_isNear 16 = .ok (.iload_n 1, 1) := by decide +kernel
theorem dX7_isNear_17 : decode cX7_isNear 17 = .ok (.iconst (-1), 1) := by decide +kernel
theorem dX7_isNear_18 : decode cX7_isNear 18 = .ok (.iload 4, 2) := by decide +kernel
theorem dX7_isNear_20 : decode cX7_isNear 20 = .ok (.invokevirtual 138, 3) := by decide +kernel
theorem dX7_isNear_23 : decode cX7_isNear 23 = .ok (.ifCond .lt 7, 3) := by decide +kernel
theorem dX7_isNear_26 : decode cX7_isNear 26 = .ok (.iconst 1, 1) := by decide +kernel
theorem dX7_isNear_27 : decode cX7_isNear 27 = .ok (.goto 4, 3) := by decide +kernel
theorem dX7_isNear_30 : decode cX7_isNear 30 = .ok (.iconst 0, 1) := by decide +kernel
theorem dX7_isNear_31 : decode cX7_isNear 31 = .ok (.ireturn, 1) := by decide +kernel
theorem dX7_hasLeave_0 : decode cX7_hasLeave 0 = .ok (.aload_n 0, 1) := by decide +kernel
theorem dX7_hasLeave_1 : decode cX7_hasLeave 1 = .ok (.iconst 5, 1) := by decide +kernel
theorem dX7_hasLeave_2 : decode cX7_hasLeave 2 = .ok (.iload_n 1, 1) := by decide +kernel
theorem dX7_hasLeave_3 : decode cX7_hasLeave 3 = .ok (.iload_n 2, 1) := by decide +kernel
theorem dX7_hasLeave_4 : decode cX7_hasLeave 4 = .ok (.iload_n 3, 1) := by decide +kernel
theorem dX7_hasLeave_5 : decode cX7_hasLeave 5 = .ok (.invokevirtual 138, 3) := by decide +kernel
theorem dX7_hasLeave_8 : decode cX7_hasLeave 8 = .ok (.ifCond .lt 7, 3) := by decide +kernel
theorem dX7_hasLeave_11 : decode cX7_hasLeave 11 = .ok (.iconst 1, 1) := by decide +kernel
theorem dX7_hasLeave_12 : decode cX7_hasLeave 12 = .ok (.goto 4, 3) := by decide +kernel
theorem dX7_hasLeave_15 : decode cX7_hasLeave 15 = .ok (.iconst 0, 1) := by decide +kernel
theorem dX7_hasLeave_16 : decode cX7_hasLeave 16 = .ok (.ireturn, 1) := by decide +kernel
theorem dX7_mayClash_0 : decode cX7_mayClash 0 = .ok (.aload_n 0, 1) := by decide +kernel
theorem dX7_mayClash_1 : decode cX7_mayClash 1 = .ok (.getfield 34, 3) := by decide +kernel
theorem dX7_mayClash_4 : decode cX7_mayClash 4 = .ok (.iload_n 1, 1) := by decide +kernel
theorem dX7_mayClash_5 : decode cX7_mayClash 5 = .ok (.iaload, 1) := by decide +kernel
theorem dX7_mayClash_6 : decode cX7_mayClash 6 = .ok (.aload_n 0, 1) := by decide +kernel
theorem dX7_mayClash_7 : decode cX7_mayClash 7 = .ok (.getfield 34, 3) := by decide +kernel
theorem dX7_mayClash_10 : decode cX7_mayClash 10 = .ok (.iload_n 2, 1) := by decide +kernel
theorem dX7_mayClash_11 : decode cX7_mayClash 11 = .ok (.iaload, 1) := by decide +kernel
theorem dX7_mayClash_12 : decode cX7_mayClash 12 = .ok (.if_icmp .eq 31, 3) := by decide +kernel
theorem dX7_mayClash_15 : decode cX7_mayClash 15 = .ok (.aload_n 0, 1) := by decide +kernel
theorem dX7_mayClash_16 : decode cX7_mayClash 16 = .ok (.iload_n 1, 1) := by decide +kernel
theorem dX7_mayClash_17 : decode cX7_mayClash 17 = .ok (.aload_n 0, 1) := by decide +kernel
theorem dX7_mayClash_18 : decode cX7_mayClash 18 = .ok (.getfield 34, 3) := by decide +kernel
theorem dX7_mayClash_21 : decode cX7_mayClash 21 = .ok (.iload_n 2, 1) := by decide +kernel
theorem dX7_mayClash_22 : decode cX7_mayClash 22 = .ok (.iaload, 1) := by decide +kernel
theorem dX7_mayClash_23 : decode cX7_mayClash 23 = .ok (.iload_n 3, 1) := by decide +kernel
theorem dX7_mayClash_24 : decode cX7_mayClash 24 = .ok (.invokevirtual 170, 3) := by decide +kernel
theorem dX7_mayClash_27 : decode cX7_mayClash 27 = .ok (.ifCond .ne 16, 3) := by decide +kernel
theorem dX7_mayClash_30 : decode cX7_mayClash 30 = .ok (.aload_n 0, 1) := by decide +kernel
theorem dX7_mayClash_31 : decode cX7_mayClash 31 = .ok (.iload_n 1, 1) := by decide +kernel
theorem dX7_mayClash_32 : decode cX7_mayClash 32 = .ok (.iload_n 2, 1) := by decide +kernel
theorem dX7_mayClash_33 : decode cX7_mayClash 33 = .ok (.invokevirtual 173, 3) := by decide +kernel
theorem dX7_mayClash_36 : decode cX7_mayClash 36 = .ok (.ifCond .eq 7, 3) := by decide +kernel
theorem dX7_mayClash_39 : decode cX7_mayClash 39 = .ok (.iconst 1, 1) := by decide +kernel
theorem dX7_mayClash_40 : decode cX7_mayClash 40 = .ok (.goto 4, 3) := by decide +kernel
theorem dX7_mayClash_43 : decode cX7_mayClash 43 = .ok (.iconst 0, 1) := by decide +kernel
theorem dX7_mayClash_44 : decode cX7_mayClash 44 = .ok (.ireturn, 1) := by decide +kernel
theorem dX7_clashes_0 : decode cX7_clashes 0 = .ok (.aload_n 0, 1) := by decide +kernel
theorem dX7_clashes_1 : decode cX7_clashes 1 = .ok (.iload_n 1, 1) := by decide +kernel
theorem dX7_clashes_2 : decode cX7_clashes 2 = .ok (.iload 5, 2) := by decide +kernel
theorem dX7_clashes_4 : decode cX7_clashes 4 = .ok (.iload 6, 2) := by decide +kernel
theorem dX7_clashes_6 : decode cX7_clashes 6 = .ok (.iload 4, 2) := by decide +kernel
theorem dX7_clashes_8 : decode cX7_clashes 8 = .ok (.invokevirtual 176, 3) := by decide +kernel
theorem dX7_clashes_11 : decode cX7_clashes 11 = .ok (.ifCond .eq 29, 3) := by decide +kernel
theorem dX7_clashes_14 : decode cX7_clashes 14 = .ok (.aload_n 0, 1) := by decide +kernel
theorem dX7_clashes_15 : decode cX7_clashes 15 = .ok (.iload_n 1, 1) := by decide +kernel
theorem dX7_clashes_16 : decode cX7_clashes 16 = .ok (.iload 5, 2) := by decide +kernel
theorem dX7_clashes_18 : decode cX7_clashes 18 = .ok (.iload_n 3, 1) := by decide +kernel
theorem dX7_clashes_19 : decode cX7_clashes 19 = .ok (.iload 4, 2) := by decide +kernel
theorem dX7_clashes_21 : decode cX7_clashes 21 = .ok (.invokevirtual 180, 3) := by decide +kernel
theorem dX7_clashes_24 : decode cX7_clashes 24 = .ok (.ifCond .eq 16, 3) := by decide +kernel
theorem dX7_clashes_27 : decode cX7_clashes 27 = .ok (.aload_n 0, 1) := by decide +kernel
theorem dX7_clashes_28 : decode cX7_clashes 28 = .ok (.iload_n 2, 1) := by decide +kernel
theorem dX7_clashes_29 : decode cX7_clashes 29 = .ok (.iload 6, 2) := by decide +kernel
theorem dX7_clashes_31 : decode cX7_clashes 31 = .ok (.iload_n 3, 1) := by decide +kernel
theorem dX7_clashes_32 : decode cX7_clashes 32 = .ok (.iload 4, 2) := by decide +kernel
theorem dX7_clashes_34 : decode cX7_clashes 34 = .ok (.invokevirtual 180, 3) := by decide +kernel
theorem dX7_clashes_37 : decode cX7_clashes 37 = .ok (.ifCond .ne 5, 3) := by decide +kernel
theorem dX7_clashes_40 : decode cX7_clashes 40 = .ok (.iconst 0, 1) := by decide +kernel
theorem dX7_clashes_41 : decode cX7_clashes 41 = .ok (.ireturn, 1) := by decide +kernel
theorem dX7_clashes_42 : decode cX7_clashes 42 = .ok (.aload_n 0, 1) := by decide +kernel
theorem dX7_clashes_43 : decode cX7_clashes 43 = .ok (.iload_n 1, 1) := by decide +kernel
theorem dX7_clashes_44 : decode cX7_clashes 44 = .ok (.iload 5, 2) := by decide +kernel
theorem dX7_clashes_46 : decode cX7_clashes 46 = .ok (.iload_n 3, 1) := by decide +kernel
theorem dX7_clashes_47 : decode cX7_clashes 47 = .ok (.iload 4, 2) := by decide +kernel
theorem dX7_clashes_49 : decode cX7_clashes 49 = .ok (.invokevirtual 158, 3) := by decide +kernel
theorem dX7_clashes_52 : decode cX7_clashes 52 = .ok (.istore 7, 2) := by decide +kernel
theorem dX7_clashes_54 : decode cX7_clashes 54 = .ok (.aload_n 0, 1) := by decide +kernel
theorem dX7_clashes_55 : decode cX7_clashes 55 = .ok (.iload_n 2, 1) := by decide +kernel
theorem dX7_clashes_56 : decode cX7_clashes 56 = .ok (.iload 6, 2) := by decide +kernel
theorem dX7_clashes_58 : decode cX7_clashes 58 = .ok (.iload_n 3, 1) := by decide +kernel
theorem dX7_clashes_59 : decode cX7_clashes 59 = .ok (.iload 4, 2) := by decide +kernel
theorem dX7_clashes_61 : decode cX7_clashes 61 = .ok (.invokevirtual 158, 3) := by decide +kernel
theorem dX7_clashes_64 : decode cX7_clashes 64 = .ok (.istore 8, 2) := by decide +kernel
theorem dX7_clashes_66 : decode cX7_clashes 66 = .ok (.iload 7, 2) := by decide +kernel
theorem dX7_clashes_68 : decode cX7_clashes 68 = .ok (.iload 8, 2) := by decide +kernel
theorem dX7_clashes_70 : decode cX7_clashes 70 = .ok (.if_icmp .lt 15, 3) := by decide +kernel
theorem dX7_clashes_73 : decode cX7_clashes 73 = .ok (.iload 7, 2) := by decide +kernel
theorem dX7_clashes_75 : decode cX7_clashes 75 = .ok (.iload 8, 2) := by decide +kernel
theorem dX7_clashes_77 : decode cX7_clashes 77 = .ok (.if_icmp .ne 25, 3) := by decide +kernel
theorem dX7_clashes_80 : decode cX7_clashes 80 = .ok (.iload_n 1, 1) := by decide +kernel
theorem dX7_clashes_81 : decode cX7_clashes 81 = .ok (.iload_n 2, 1) := by decide +kernel
theorem dX7_clashes_82 : decode cX7_clashes 82 = .ok (.if_icmp .ge 20, 3) := by decide +kernel
theorem dX7_clashes_85 : decode cX7_clashes 85 = .ok (.aload_n 0, 1) := by decide +kernel
theorem dX7_clashes_86 : decode cX7_clashes 86 = .ok (.iload_n 1, 1) := by decide +kernel
theorem dX7_clashes_87 : decode cX7_clashes 87 = .ok (.iload 5, 2) := by decide +kernel
theorem dX7_clashes_89 : decode cX7_clashes 89 = .ok (.iload_n 3, 1) := by decide +kernel
theorem dX7_clashes_90 : decode cX7_clashes 90 = .ok (.iload 8, 2) := by decide +kernel
theorem dX7_clashes_92 : decode cX7_clashes 92 = .ok (.invokevirtual 180, 3) := by decide +kernel
theorem dX7_clashes_95 : decode cX7_clashes 95 = .ok (.ifCond .eq 7, 3) := by decide +kernel
theorem dX7_clashes_98 : decode cX7_clashes 98 = .ok (.iconst 1, 1) := by decide +kernel
theorem dX7_clashes_99 : decode cX7_clashes 99 = .ok (.goto 4, 3) := by decide +kernel
theorem dX7_clashes_102 : decode cX7_clashes 102 = .ok (.iconst 0, 1) := by decide +kernel
theorem dX7_clashes_103 : decode cX7_clashes 103 = .ok (.ireturn, 1) := by decide +kernel
theorem dX7_clashOf_0 : decode cX7_clashOf 0 = .ok (.aload_n 0, 1) := by decide +kernel
theorem dX7_clashOf_1 : decode cX7_clashOf 1 = .ok (.iload_n 1, 1) := by decide +kernel
theorem dX7_clashOf_2 : decode cX7_clashOf 2 = .ok (.iload_n 2, 1) := by decide +kernel
theorem dX7_clashOf_3 : decode cX7_clashOf 3 = .ok (.iload 4, 2) := by decide +kernel
theorem dX7_clashOf_5 : decode cX7_clashOf 5 = .ok (.invokevirtual 183, 3) := by decide +kernel
theorem dX7_clashOf_8 : decode cX7_clashOf 8 = .ok (.ifCond .ne 5, 3) := by decide +kernel
theorem dX7_clashOf_11 : decode cX7_clashOf 11 = .ok (.iconst (-1), 1) := by decide +kernel
theorem dX7_clashOf_12 : decode cX7_clashOf 12 = .ok (.ireturn, 1) := by decide +kernel
theorem dX7_clashOf_13 : decode cX7_clashOf 13 = .ok (.aload_n 0, 1) := by decide +kernel
theorem dX7_clashOf_14 : decode cX7_clashOf 14 = .ok (.iload_n 1, 1) := by decide +kernel
theorem dX7_clashOf_15 : decode cX7_clashOf 15 = .ok (.iload 4, 2) := by decide +kernel
theorem dX7_clashOf_17 : decode cX7_clashOf 17 = .ok (.aload_n 0, 1) := by decide +kernel
theorem dX7_clashOf_18 : decode cX7_clashOf 18 = .ok (.getfield 70, 3) := by decide +kernel
theorem dX7_clashOf_21 : decode cX7_clashOf 21 = .ok (.invokevirtual 186, 3) := by decide +kernel
theorem dX7_clashOf_24 : decode cX7_clashOf 24 = .ok (.istore 5, 2) := by decide +kernel
theorem dX7_clashOf_26 : decode cX7_clashOf 26 = .ok (.aload_n 0, 1) := by decide +kernel
theorem dX7_clashOf_27 : decode cX7_clashOf 27 = .ok (.iload_n 2, 1) := by decide +kernel
theorem dX7_clashOf_28 : decode cX7_clashOf 28 = .ok (.iload 4, 2) := by decide +kernel
theorem dX7_clashOf_30 : decode cX7_clashOf 30 = .ok (.aload_n 0, 1) := by decide +kernel
theorem dX7_clashOf_31 : decode cX7_clashOf 31 = .ok (.getfield 73, 3) := by decide +kernel
theorem dX7_clashOf_34 : decode cX7_clashOf 34 = .ok (.invokevirtual 186, 3) := by decide +kernel
theorem dX7_clashOf_37 : decode cX7_clashOf 37 = .ok (.istore 6, 2) := by decide +kernel
theorem dX7_clashOf_39 : decode cX7_clashOf 39 = .ok (.iconst 0, 1) := by decide +kernel
theorem dX7_clashOf_40 : decode cX7_clashOf 40 = .ok (.istore 7, 2) := by decide +kernel
theorem dX7_clashOf_42 : decode cX7_clashOf 42 = .ok (.iload 7, 2) := by decide +kernel
theorem dX7_clashOf_44 : decode cX7_clashOf 44 = .ok (.iload 5, 2) := by decide +kernel
theorem dX7_clashOf_46 : decode cX7_clashOf 46 = .ok (.if_icmp .ge 71, 3) := by decide +kernel
theorem dX7_clashOf_49 : decode cX7_clashOf 49 = .ok (.iconst 0, 1) := by decide +kernel
theorem dX7_clashOf_50 : decode cX7_clashOf 50 = .ok (.istore 8, 2) := by decide +kernel
theorem dX7_clashOf_52 : decode cX7_clashOf 52 = .ok (.iload 8, 2) := by decide +kernel
theorem dX7_clashOf_54 : decode cX7_clashOf 54 = .ok (.iload 6, 2) := by decide +kernel
theorem dX7_clashOf_56 : decode cX7_clashOf 56 = .ok (.if_icmp .ge 55, 3) := by decide +kernel
theorem dX7_clashOf_59 : decode cX7_clashOf 59 = .ok (.aload_n 0, 1) := by decide +kernel
theorem dX7_clashOf_60 : decode cX7_clashOf 60 = .ok (.iload_n 1, 1) := by decide +kernel
theorem dX7_clashOf_61 : decode cX7_clashOf 61 = .ok (.iload_n 2, 1) := by decide +kernel
theorem dX7_clashOf_62 : decode cX7_clashOf 62 = .ok (.iload_n 3, 1) := by decide +kernel
theorem dX7_clashOf_63 : decode cX7_clashOf 63 = .ok (.iload 4, 2) := by decide +kernel
theorem dX7_clashOf_65 : decode cX7_clashOf 65 = .ok (.aload_n 0, 1) := by decide +kernel
theorem dX7_clashOf_66 : decode cX7_clashOf 66 = .ok (.getfield 70, 3) := by decide +kernel
theorem dX7_clashOf_69 : decode cX7_clashOf 69 = .ok (.iload 7, 2) := by decide +kernel
theorem dX7_clashOf_71 : decode cX7_clashOf 71 = .ok (.iaload, 1) := by decide +kernel
theorem dX7_clashOf_72 : decode cX7_clashOf 72 = .ok (.aload_n 0, 1) := by decide +kernel
theorem dX7_clashOf_73 : decode cX7_clashOf 73 = .ok (.getfield 73, 3) := by decide +kernel
theorem dX7_clashOf_76 : decode cX7_clashOf 76 = .ok (.iload 8, 2) := by decide +kernel
theorem dX7_clashOf_78 : decode cX7_clashOf 78 = .ok (.iaload, 1) := by decide +kernel
theorem dX7_clashOf_79 : decode cX7_clashOf 79 = .ok (.invokevirtual 190, 3) := by decide +kernel
theorem dX7_clashOf_82 : decode cX7_clashOf 82 = .ok (.ifCond .eq 23, 3) := by decide +kernel
theorem dX7_clashOf_85 : decode cX7_clashOf 85 = .ok (.sipush 360, 3) := by decide +kernel
theorem dX7_clashOf_88 : decode cX7_clashOf 88 = .ok (.aload_n 0, 1) := by decide +kernel
theorem dX7_clashOf_89 : decode cX7_clashOf 89 = .ok (.getfield 70, 3) := by decide +kernel
theorem dX7_clashOf_92 : decode cX7_clashOf 92 = .ok (.iload 7, 2) := by decide +kernel
theorem dX7_clashOf_94 : decode cX7_clashOf 94 = .ok (.iaload, 1) := by decide +kernel
theorem dX7_clashOf_95 : decode cX7_clashOf 95 = .ok (.imul, 1) := by decide +kernel
theorem dX7_clashOf_96 : decode cX7_clashOf 96 = .ok (.aload_n 0, 1) := by decide +kernel
theorem dX7_clashOf_97 : decode cX7_clashOf 97 = .ok (.getfield 73, 3) := by decide +kernel
theorem dX7_clashOf_100 : decode cX7_clashOf 100 = .ok (.iload 8, 2) := by decide +kernel
theorem dX7_clashOf_102 : decode cX7_clashOf 102 = .ok (.iaload, 1) := by decide +kernel
theorem dX7_clashOf_103 : decode cX7_clashOf 103 = .ok (.iadd, 1) := by decide +kernel
theorem dX7_clashOf_104 : decode cX7_clashOf 104 = .ok (.ireturn, 1) := by decide +kernel
theorem dX7_clashOf_105 : decode cX7_clashOf 105 = .ok (.iinc 8 1, 3) := by decide +kernel
theorem dX7_clashOf_108 : decode cX7_clashOf 108 = .ok (.goto (-56), 3) := by decide +kernel
theorem dX7_clashOf_111 : decode cX7_clashOf 111 = .ok (.iinc 7 1, 3) := by decide +kernel
theorem dX7_clashOf_114 : decode cX7_clashOf 114 = .ok (.goto (-72), 3) := by decide +kernel
theorem dX7_clashOf_117 : decode cX7_clashOf 117 = .ok (.iconst (-1), 1) := by decide +kernel
theorem dX7_clashOf_118 : decode cX7_clashOf 118 = .ok (.ireturn, 1) := by decide +kernel
theorem dX7_clashRight_0 : decode cX7_clashRight 0 = .ok (.aload_n 0, 1) := by decide +kernel
theorem dX7_clashRight_1 : decode cX7_clashRight 1 = .ok (.iload_n 1, 1) := by decide +kernel
theorem dX7_clashRight_2 : decode cX7_clashRight 2 = .ok (.iload_n 2, 1) := by decide +kernel
theorem dX7_clashRight_3 : decode cX7_clashRight 3 = .ok (.iload 4, 2) := by decide +kernel
theorem dX7_clashRight_5 : decode cX7_clashRight 5 = .ok (.invokevirtual 183, 3) := by decide +kernel
theorem dX7_clashRight_8 : decode cX7_clashRight 8 = .ok (.ifCond .ne 5, 3) := by decide +kernel
theorem dX7_clashRight_11 : decode cX7_clashRight 11 = .ok (.iconst (-1), 1) := by decide +kernel
theorem dX7_clashRight_12 : decode cX7_clashRight 12 = .ok (.ireturn, 1) := by decide +kernel
theorem dX7_clashRight_13 : decode cX7_clashRight 13 = .ok (.iconst (-1), 1) := by decide +kernel
theorem dX7_clashRight_14 : decode cX7_clashRight 14 = .ok (.istore 5, 2) := by decide +kernel
theorem dX7_clashRight_16 : decode cX7_clashRight 16 = .ok (.aload_n 0, 1) := by decide +kernel
theorem dX7_clashRight_17 : decode cX7_clashRight 17 = .ok (.iload_n 1, 1) := by decide +kernel
theorem dX7_clashRight_18 : decode cX7_clashRight 18 = .ok (.iload 4, 2) := by decide +kernel
theorem dX7_clashRight_20 : decode cX7_clashRight 20 = .ok (.aload_n 0, 1) := by decide +kernel
theorem dX7_clashRight_21 : decode cX7_clashRight 21 = .ok (.getfield 70, 3) := by decide +kernel
theorem dX7_clashRight_24 : decode cX7_clashRight 24 = .ok (.invokevirtual 186, 3) := by decide +kernel
theorem dX7_clashRight_27 : decode cX7_clashRight 27 = .ok (.istore 6, 2) := by decide +kernel
theorem dX7_clashRight_29 : decode cX7_clashRight 29 = .ok (.aload_n 0, 1) := by decide +kernel
theorem dX7_clashRight_30 : decode cX7_clashRight 30 = .ok (.iload_n 2, 1) := by decide +kernel
theorem dX7_clashRight_31 : decode cX7_clashRight 31 = .ok (.iload 4, 2) := by decide +kernel
theorem dX7_clashRight_33 : decode cX7_clashRight 33 = .ok (.aload_n 0, 1) := by decide +kernel
theorem dX7_clashRight_34 : decode cX7_clashRight 34 = .ok (.getfield 73, 3) := by decide +kernel
theorem dX7_clashRight_37 : decode cX7_clashRight 37 = .ok (.invokevirtual 186, 3) := by decide +kernel
theorem dX7_clashRight_40 : decode cX7_clashRight 40 = .ok (.istore 7, 2) := by decide +kernel
theorem dX7_clashRight_42 : decode cX7_clashRight 42 = .ok (.iconst 0, 1) := by decide +kernel
theorem dX7_clashRight_43 : decode cX7_clashRight 43 = .ok (.istore 8, 2) := by decide +kernel
theorem dX7_clashRight_45 : decode cX7_clashRight 45 = .ok (.iload 8, 2) := by decide +kernel
theorem dX7_clashRight_47 : decode cX7_clashRight 47 = .ok (.iload 6, 2) := by decide +kernel
theorem dX7_clashRight_49 : decode cX7_clashRight 49 = .ok (.if_icmp .ge 84, 3) := by decide +kernel
theorem dX7_clashRight_52 : decode cX7_clashRight 52 = .ok (.iconst 0, 1) := by decide +kernel
theorem dX7_clashRight_53 : decode cX7_clashRight 53 = .ok (.istore 9, 2) := by decide +kernel
theorem dX7_clashRight_55 : decode cX7_clashRight 55 = .ok (.iload 9, 2) := by decide +kernel
theorem dX7_clashRight_57 : decode cX7_clashRight 57 = .ok (.iload 7, 2) := by decide +kernel
theorem dX7_clashRight_59 : decode cX7_clashRight 59 = .ok (.if_icmp .ge 68, 3) := by decide +kernel
theorem dX7_clashRight_62 : decode cX7_clashRight 62 = .ok (.aload_n 0, 1) := by decide +kernel
theorem dX7_clashRight_63 : decode cX7_clashRight 63 = .ok (.iload_n 1, 1) := by decide +kernel
theorem dX7_clashRight_64 : decode cX7_clashRight 64 = .ok (.aload_n 0, 1) := by decide +kernel
theorem dX7_clashRight_65 : decode cX7_clashRight 65 = .ok (.getfield 70, 3) := by decide +kernel
theorem dX7_clashRight_68 : decode cX7_clashRight 68 = .ok (.iload 8, 2) := by decide +kernel
theorem dX7_clashRight_70 : decode cX7_clashRight 70 = .ok (.iaload, 1) := by decide +kernel
theorem dX7_clashRight_71 : decode cX7_clashRight 71 = .ok (.iload_n 3, 1) := by decide +kernel
theorem dX7_clashRight_72 : decode cX7_clashRight 72 = .ok (.iload 4, 2) := by decide +kernel
theorem dX7_clashRight_74 : decode cX7_clashRight 74 = .ok (.invokevirtual 158, 3) := by decide +kernel
theorem dX7_clashRight_77 : decode cX7_clashRight 77 = .ok (.istore 10, 2) := by decide +kernel
theorem dX7_clashRight_79 : decode cX7_clashRight 79 = .ok (.iload 5, 2) := by decide +kernel
theorem dX7_clashRight_81 : decode cX7_clashRight 81 = .ok (.ifCond .lt 10, 3) := by decide +kernel
theorem dX7_clashRight_84 : decode cX7_clashRight 84 = .ok (.iload 10, 2) := by decide +kernel
theorem dX7_clashRight_86 : decode cX7_clashRight 86 = .ok (.iload 5, 2) := by decide +kernel
theorem dX7_clashRight_88 : decode cX7_clashRight 88 = .ok (.if_icmp .ge 33, 3) := by decide +kernel
theorem dX7_clashRight_91 : decode cX7_clashRight 91 = .ok (.aload_n 0, 1) := by decide +kernel
theorem dX7_clashRight_92 : decode cX7_clashRight 92 = .ok (.iload_n 1, 1) := by decide +kernel
theorem dX7_clashRight_93 : decode cX7_clashRight 93 = .ok (.iload_n 2, 1) := by decide +kernel
theorem dX7_clashRight_94 : decode cX7_clashRight 94 = .ok (.iload_n 3, 1) := by decide +kernel
theorem dX7_clashRight_95 : decode cX7_clashRight 95 = .ok (.iload 4, 2) := by decide +kernel
theorem dX7_clashRight_97 : decode cX7_clashRight 97 = .ok (.aload_n 0, 1) := by decide +kernel
theorem dX7_clashRight_98 : decode cX7_clashRight 98 = .ok (.getfield 70, 3) := by decide +kernel
theorem dX7_clashRight_101 : decode cX7_clashRight 101 = .ok (.iload 8, 2) := by decide +kernel
theorem dX7_clashRight_103 : decode cX7_clashRight 103 = .ok (.iaload, 1) := by decide +kernel
theorem dX7_clashRight_104 : decode cX7_clashRight 104 = .ok (.aload_n 0, 1) := by decide +kernel
theorem dX7_clashRight_105 : decode cX7_clashRight 105 = .ok (.getfield 73, 3) := by decide +kernel
theorem dX7_clashRight_108 : decode cX7_clashRight 108 = .ok (.iload 9, 2) := by decide +kernel
theorem dX7_clashRight_110 : decode cX7_clashRight 110 = .ok (.iaload, 1) := by decide +kernel
theorem dX7_clashRight_111 : decode cX7_clashRight 111 = .ok (.invokevirtual 190, 3) := by decide +kernel
theorem dX7_clashRight_114 : decode cX7_clashRight 114 = .ok (.ifCond .eq 7, 3) := by decide +kernel
theorem dX7_clashRight_117 : decode cX7_clashRight 117 = .ok (.iload 10, 2) := by decide +kernel
theorem dX7_clashRight_119 : decode cX7_clashRight 119 = .ok (.istore 5, 2) := by decide +kernel
theorem dX7_clashRight_121 : decode cX7_clashRight 121 = .ok (.iinc 9 1, 3) := by decide +kernel
theorem dX7_clashRight_124 : decode cX7_clashRight 124 = .ok (.goto (-69), 3) := by decide +kernel
theorem dX7_clashRight_127 : decode cX7_clashRight 127 = .ok (.iinc 8 1, 3) := by decide +kernel
theorem dX7_clashRight_130 : decode cX7_clashRight 130 = .ok (.goto (-85), 3) := by decide +kernel
theorem dX7_clashRight_133 : decode cX7_clashRight 133 = .ok (.iload 5, 2) := by decide +kernel
theorem dX7_clashRight_135 : decode cX7_clashRight 135 = .ok (.ireturn, 1) := by decide +kernel
theorem dX7_isX_0 : decode cX7_isX 0 = .ok (.iload_n 0, 1) := by decide +kernel
theorem dX7_isX_1 : decode cX7_isX 1 = .ok (.ifCond .eq 14, 3) := by decide +kernel
theorem dX7_isX_4 : decode cX7_isX 4 = .ok (.iload_n 0, 1) := by decide +kernel
theorem dX7_isX_5 : decode cX7_isX 5 = .ok (.iconst 3, 1) := by decide +kernel
theorem dX7_isX_6 : decode cX7_isX 6 = .ok (.if_icmp .eq 9, 3) := by decide +kernel
theorem dX7_isX_9 : decode cX7_isX 9 = .ok (.iload_n 0, 1) := by decide +kernel
theorem dX7_isX_10 : decode cX7_isX 10 = .ok (.bipush 6, 2) := by decide +kernel
theorem dX7_isX_12 : decode cX7_isX 12 = .ok (.if_icmp .ne 8, 3) := by decide +kernel
theorem dX7_isX_15 : decode cX7_isX 15 = .ok (.iload_n 1, 1) := by decide +kernel
theorem dX7_isX_16 : decode cX7_isX 16 = .ok (.invokestatic 94, 3) := by decide +kernel
theorem dX7_isX_19 : decode cX7_isX 19 = .ok (.ireturn, 1) := by decide +kernel
theorem dX7_isX_20 : decode cX7_isX 20 = .ok (.iload_n 0, 1) := by decide +kernel
theorem dX7_isX_21 : decode cX7_isX 21 = .ok (.iconst 1, 1) := by decide +kernel
theorem dX7_isX_22 : decode cX7_isX 22 = .ok (.if_icmp .ne 8, 3) := by decide +kernel
theorem dX7_isX_25 : decode cX7_isX 25 = .ok (.iload_n 1, 1) := by decide +kernel
theorem dX7_isX_26 : decode cX7_isX 26 = .ok (.invokestatic 194, 3) := by decide +kernel
theorem dX7_isX_29 : decode cX7_isX 29 = .ok (.ireturn, 1) := by decide +kernel
theorem dX7_isX_30 : decode cX7_isX 30 = .ok (.iload_n 0, 1) := by decide +kernel
theorem dX7_isX_31 : decode cX7_isX 31 = .ok (.iconst 5, 1) := by decide +kernel
theorem dX7_isX_32 : decode cX7_isX 32 = .ok (.if_icmp .eq 9, 3) := by decide +kernel
theorem dX7_isX_35 : decode cX7_isX 35 = .ok (.iload_n 0, 1) := by decide +kernel
theorem dX7_isX_36 : decode cX7_isX 36 = .ok (.bipush 8, 2) := by decide +kernel
theorem dX7_isX_38 : decode cX7_isX 38 = .ok (.if_icmp .ne 10, 3) := by decide +kernel
theorem dX7_isX_41 : decode cX7_isX 41 = .ok (.iload_n 1, 1) := by decide +kernel
theorem dX7_isX_42 : decode cX7_isX 42 = .ok (.invokestatic 102, 3) := by decide +kernel
theorem dX7_isX_45 : decode cX7_isX 45 = .ok (.goto 12, 3) := by decide +kernel
theorem dX7_isX_48 : decode cX7_isX 48 = .ok (.iload_n 1, 1) := by decide +kernel
theorem dX7_isX_49 : decode cX7_isX 49 = .ok (.ifCond .ne 7, 3) := by decide +kernel
theorem dX7_isX_52 : decode cX7_isX 52 = .ok (.iconst 1, 1) := by decide +kernel
theorem dX7_isX_53 : decode cX7_isX 53 = .ok (.goto 4, 3) := by decide +kernel
theorem dX7_isX_56 : decode cX7_isX 56 = .ok (.iconst 0, 1) := by decide +kernel
theorem dX7_isX_57 : decode cX7_isX 57 = .ok (.ireturn, 1) := by decide +kernel
theorem dX7_canBe_0 : decode cX7_canBe 0 = .ok (.aload_n 0, 1) := by decide +kernel
theorem dX7_canBe_1 : decode cX7_canBe 1 = .ok (.iload_n 2, 1) := by decide +kernel
theorem dX7_canBe_2 : decode cX7_canBe 2 = .ok (.iload 4, 2) := by decide +kernel
theorem dX7_canBe_4 : decode cX7_canBe 4 = .ok (.invokevirtual 145, 3) := by decide +kernel
theorem dX7_canBe_7 : decode cX7_canBe 7 = .ok (.istore 5, 2) := by decide +kernel
theorem dX7_canBe_9 : decode cX7_canBe 9 = .ok (.iload_n 1, 1) := by decide +kernel
theorem dX7_canBe_10 : decode cX7_canBe 10 = .ok (.ifCond .ne 71, 3) := by decide +kernel
theorem dX7_canBe_13 : decode cX7_canBe 13 = .ok (.aload_n 0, 1) := by decide +kernel
theorem dX7_canBe_14 : decode cX7_canBe 14 = .ok (.iconst 3, 1) := by decide +kernel
theorem dX7_canBe_15 : decode cX7_canBe 15 = .ok (.iload_n 2, 1) := by decide +kernel
theorem dX7_canBe_16 : decode cX7_canBe 16 = .ok (.iload_n 3, 1) := by decide +kernel
theorem dX7_canBe_17 : decode cX7_canBe 17 = .ok (.iload 4, 2) := by decide +kernel
theorem dX7_canBe_19 : decode cX7_canBe 19 = .ok (.invokevirtual 138, 3) := by decide +kernel
theorem dX7_canBe_22 : decode cX7_canBe 22 = .ok (.istore 6, 2) := by decide +kernel
theorem dX7_canBe_24 : decode cX7_canBe 24 = .ok (.aload_n 0, 1) := by decide +kernel
theorem dX7_canBe_25 : decode cX7_canBe 25 = .ok (.iconst 0, 1) := by decide +kernel
theorem dX7_canBe_26 : decode cX7_canBe 26 = .ok (.iload_n 2, 1) := by decide +kernel
theorem dX7_canBe_27 : decode cX7_canBe 27 = .ok (.iload_n 3, 1) := by decide +kernel
theorem dX7_canBe_28 : decode cX7_canBe 28 = .ok (.iload 4, 2) := by decide +kernel
theorem dX7_canBe_30 : decode cX7_canBe 30 = .ok (.invokevirtual 138, 3) := by decide +kernel
theorem dX7_canBe_33 : decode cX7_canBe 33 = .ok (.istore 7, 2) := by decide +kernel
theorem dX7_canBe_35 : decode cX7_canBe 35 = .ok (.iload 7, 2) := by decide +kernel
theorem dX7_canBe_37 : decode cX7_canBe 37 = .ok (.ifCond .lt 14, 3) := by decide +kernel
theorem dX7_canBe_40 : decode cX7_canBe 40 = .ok (.iload 7, 2) := by decide +kernel
theorem dX7_canBe_42 : decode cX7_canBe 42 = .ok (.iload 6, 2) := by decide +kernel
theorem dX7_canBe_44 : decode cX7_canBe 44 = .ok (.if_icmp .le 7, 3) := by decide +kernel
theorem dX7_canBe_47 : decode cX7_canBe 47 = .ok (.iconst 1, 1) := by decide +kernel
theorem dX7_canBe_48 : decode cX7_canBe 48 = .ok (.goto 4, 3) := by decide +kernel
theorem dX7_canBe_51 : decode cX7_canBe 51 = .ok (.iconst 0, 1) := by decide +kernel
theorem dX7_canBe_52 : decode cX7_canBe 52 = .ok (.istore 8, 2) := by decide +kernel
theorem dX7_canBe_54 : decode cX7_canBe 54 = .ok (.iload 8, 2) := by decide +kernel
theorem dX7_canBe_56 : decode cX7_canBe 56 = .ok (.ifCond .ne 23, 3) := by decide +kernel
theorem dX7_canBe_59 : decode cX7_canBe 59 = .ok (.aload_n 0, 1) := by decide +kernel
theorem dX7_canBe_60 : decode cX7_canBe 60 = .ok (.iload_n 2, 1) := by decide +kernel
theorem dX7_canBe_61 : decode cX7_canBe 61 = .ok (.iload 4, 2) := by decide +kernel
theorem dX7_canBe_63 : decode cX7_canBe 63 = .ok (.aload_n 0, 1) := by decide +kernel
theorem dX7_canBe_64 : decode cX7_canBe 64 = .ok (.getfield 70, 3) := by decide +kernel
theorem dX7_canBe_67 : decode cX7_canBe 67 = .ok (.invokevirtual 186, 3) := by decide +kernel
theorem dX7_canBe_70 : decode cX7_canBe 70 = .ok (.bipush 20, 2) := by decide +kernel
theorem dX7_canBe_72 : decode cX7_canBe 72 = .ok (.if_icmp .ge 7, 3) := by decide +kernel
theorem dX7_canBe_75 : decode cX7_canBe 75 = .ok (.iconst 1, 1) := by decide +kernel
theorem dX7_canBe_76 : decode cX7_canBe 76 = .ok (.goto 4, 3) := by decide +kernel
theorem dX7_canBe_79 : decode cX7_canBe 79 = .ok (.iconst 0, 1) := by decide +kernel
theorem dX7_canBe_80 : decode cX7_canBe 80 = .ok (.ireturn, 1) := by decide +kernel
theorem dX7_canBe_81 : decode cX7_canBe 81 = .ok (.iload_n 1, 1) := by decide +kernel
theorem dX7_canBe_82 : decode cX7_canBe 82 = .ok (.iconst 1, 1) := by decide +kernel
theorem dX7_canBe_83 : decode cX7_canBe 83 = .ok (.if_icmp .ne 33, 3) := by decide +kernel
theorem dX7_canBe_86 : decode cX7_canBe 86 = .ok (.aload_n 0, 1) := by decide +kernel
theorem dX7_canBe_87 : decode cX7_canBe 87 = .ok (.iconst 1, 1) := by decide +kernel
theorem dX7_canBe_88 : decode cX7_canBe 88 = .ok (.iload_n 2, 1) := by decide +kernel
theorem dX7_canBe_89 : decode cX7_canBe 89 = .ok (.iload_n 3, 1) := by decide +kernel
theorem dX7_canBe_90 : decode cX7_canBe 90 = .ok (.iload 4, 2) := by decide +kernel
theorem dX7_canBe_92 : decode cX7_canBe 92 = .ok (.invokevirtual 138, 3) := by decide +kernel
theorem dX7_canBe_95 : decode cX7_canBe 95 = .ok (.ifCond .ge 19, 3) := by decide +kernel
theorem dX7_canBe_98 : decode cX7_canBe 98 = .ok (.aload_n 0, 1) := by decide +kernel
theorem dX7_canBe_99 : decode cX7_canBe 99 = .ok (.iconst 0, 1) := by decide +kernel
theorem dX7_canBe_100 : decode cX7_canBe 100 = .ok (.iload_n 2, 1) := by decide +kernel
theorem dX7_canBe_101 : decode cX7_canBe 101 = .ok (.iconst (-1), 1) := by decide +kernel
theorem dX7_canBe_102 : decode cX7_canBe 102 = .ok (.iload 4, 2) := by decide +kernel
theorem dX7_canBe_104 : decode cX7_canBe 104 = .ok (.invokevirtual 138, 3) := by decide +kernel
theorem dX7_canBe_107 : decode cX7_canBe 107 = .ok (.ifCond .lt 7, 3) := by decide +kernel
theorem dX7_canBe_110 : decode cX7_canBe 110 = .ok (.iconst 1, 1) := by decide +kernel
theorem dX7_canBe_111 : decode cX7_canBe 111 = .ok (.goto 4, 3) := by decide +kernel
theorem dX7_canBe_114 : decode cX7_canBe 114 = .ok (.iconst 0, 1) := by decide +kernel
theorem dX7_canBe_115 : decode cX7_canBe 115 = .ok (.ireturn, 1) := by decide +kernel
theorem dX7_canBe_116 : decode cX7_canBe 116 = .ok (.iload 5, 2) := by decide +kernel
theorem dX7_canBe_118 : decode cX7_canBe 118 = .ok (.ifCond .ge 5, 3) := by decide +kernel
theorem dX7_canBe_121 : decode cX7_canBe 121 = .ok (.iconst 0, 1) := by decide +kernel
theorem dX7_canBe_122 : decode cX7_canBe 122 = .ok (.ireturn, 1) := by decide +kernel
theorem dX7_canBe_123 : decode cX7_canBe 123 = .ok (.iload_n 1, 1) := by decide +kernel
theorem dX7_canBe_124 : decode cX7_canBe 124 = .ok (.tableswitch 166 2 7 #[40, 77, 104, 120, 77, 137], 40) := by decide +kernel
theorem dX7_canBe_164 : decode cX7_canBe 164 = .ok (.aload_n 0, 1) := by decide +kernel
theorem dX7_canBe_165 : decode cX7_canBe 165 = .ok (.iload_n 2, 1) := by decide +kernel
theorem dX7_canBe_166 : decode cX7_canBe 166 = .ok (.iload 4, 2) := by decide +kernel
theorem dX7_canBe_168 : decode cX7_canBe 168 = .ok (.invokevirtual 152, 3) := by decide +kernel
theorem dX7_canBe_171 : decode cX7_canBe 171 = .ok (.istore 6, 2) := by decide +kernel
theorem dX7_canBe_173 : decode cX7_canBe 173 = .ok (.iload 4, 2) := by decide +kernel
theorem dX7_canBe_175 : decode cX7_canBe 175 = .ok (.iload 6, 2) := by decide +kernel
theorem dX7_canBe_177 : decode cX7_canBe 177 = .ok (.sipush 365, 3) := by decide +kernel
theorem dX7_canBe_180 : decode cX7_canBe 180 = .ok (.isub, 1) := by decide +kernel
theorem dX7_canBe_181 : decode cX7_canBe 181 = .ok (.if_icmp .lt 18, 3) := by decide +kernel
theorem dX7_canBe_184 : decode cX7_canBe 184 = .ok (.iload 4, 2) := by decide +kernel
theorem dX7_canBe_186 : decode cX7_canBe 186 = .ok (.iload 6, 2) := by decide +kernel
theorem dX7_canBe_188 : decode cX7_canBe 188 = .ok (.sipush 180, 3) := by decide +kernel
theorem dX7_canBe_191 : decode cX7_canBe 191 = .ok (.iadd, 1) := by decide +kernel
theorem dX7_canBe_192 : decode cX7_canBe 192 = .ok (.if_icmp .gt 7, 3) := by decide +kernel
theorem dX7_canBe_195 : decode cX7_canBe 195 = .ok (.iconst 1, 1) := by decide +kernel
theorem dX7_canBe_196 : decode cX7_canBe 196 = .ok (.goto 4, 3) := by decide +kernel
theorem dX7_canBe_199 : decode cX7_canBe 199 = .ok (.iconst 0, 1) := by decide +kernel
theorem dX7_canBe_200 : decode cX7_canBe 200 = .ok (.ireturn, 1) := by decide +kernel
theorem dX7_canBe_201 : decode cX7_canBe 201 = .ok (.aload_n 0, 1) := by decide +kernel
theorem dX7_canBe_202 : decode cX7_canBe 202 = .ok (.iconst 0, 1) := by decide +kernel
theorem dX7_canBe_203 : decode cX7_canBe 203 = .ok (.iload_n 2, 1) := by decide +kernel
theorem dX7_canBe_204 : decode cX7_canBe 204 = .ok (.iload_n 3, 1) := by decide +kernel
theorem dX7_canBe_205 : decode cX7_canBe 205 = .ok (.iload 4, 2) := by decide +kernel
theorem dX7_canBe_207 : decode cX7_canBe 207 = .ok (.invokevirtual 138, 3) := by decide +kernel
theorem dX7_canBe_210 : decode cX7_canBe 210 = .ok (.aload_n 0, 1) := by decide +kernel
theorem dX7_canBe_211 : decode cX7_canBe 211 = .ok (.iconst 3, 1) := by decide +kernel
theorem dX7_canBe_212 : decode cX7_canBe 212 = .ok (.iload_n 2, 1) := by decide +kernel
theorem dX7_canBe_213 : decode cX7_canBe 213 = .ok (.iload_n 3, 1) := by decide +kernel
theorem dX7_canBe_214 : decode cX7_canBe 214 = .ok (.iload 4, 2) := by decide +kernel
theorem dX7_canBe_216 : decode cX7_canBe 216 = .ok (.invokevirtual 138, 3) := by decide +kernel
theorem dX7_canBe_219 : decode cX7_canBe 219 = .ok (.if_icmp .le 7, 3) := by decide +kernel
theorem dX7_canBe_222 : decode cX7_canBe 222 = .ok (.iconst 1, 1) := by decide +kernel
theorem dX7_canBe_223 : decode cX7_canBe 223 = .ok (.goto 4, 3) := by decide +kernel
theorem dX7_canBe_226 : decode cX7_canBe 226 = .ok (.iconst 0, 1) := by decide +kernel
theorem dX7_canBe_227 : decode cX7_canBe 227 = .ok (.ireturn, 1) := by decide +kernel
theorem dX7_canBe_228 : decode cX7_canBe 228 = .ok (.aload_n 0, 1) := by decide +kernel
theorem dX7_canBe_229 : decode cX7_canBe 229 = .ok (.iload_n 2, 1) := by decide +kernel
theorem dX7_canBe_230 : decode cX7_canBe 230 = .ok (.iload 4, 2) := by decide +kernel
theorem dX7_canBe_232 : decode cX7_canBe 232 = .ok (.invokevirtual 164, 3) := by decide +kernel
theorem dX7_canBe_235 : decode cX7_canBe 235 = .ok (.ifCond .ne 7, 3) := by decide +kernel
theorem dX7_canBe_238 : decode cX7_canBe 238 = .ok (.iconst 1, 1) := by decide +kernel
theorem dX7_canBe_239 : decode cX7_canBe 239 = .ok (.goto 4, 3) := by decide +kernel
theorem dX7_canBe_242 : decode cX7_canBe 242 = .ok (.iconst 0, 1) := by decide +kernel
theorem dX7_canBe_243 : decode cX7_canBe 243 = .ok (.ireturn, 1) := by decide +kernel
theorem dX7_canBe_244 : decode cX7_canBe 244 = .ok (.aload_n 0, 1) := by decide +kernel
theorem dX7_canBe_245 : decode cX7_canBe 245 = .ok (.iload_n 2, 1) := by decide +kernel
theorem dX7_canBe_246 : decode cX7_canBe 246 = .ok (.iload_n 3, 1) := by decide +kernel
theorem dX7_canBe_247 : decode cX7_canBe 247 = .ok (.iload 4, 2) := by decide +kernel
theorem dX7_canBe_249 : decode cX7_canBe 249 = .ok (.invokevirtual 170, 3) := by decide +kernel
theorem dX7_canBe_252 : decode cX7_canBe 252 = .ok (.ifCond .ne 7, 3) := by decide +kernel
theorem dX7_canBe_255 : decode cX7_canBe 255 = .ok (.iconst 1, 1) := by decide +kernel
theorem dX7_canBe_256 : decode cX7_canBe 256 = .ok (.goto 4, 3) := by decide +kernel
theorem dX7_canBe_259 : decode cX7_canBe 259 = .ok (.iconst 0, 1) := by decide +kernel
theorem dX7_canBe_260 : decode cX7_canBe 260 = .ok (.ireturn, 1) := by decide +kernel
theorem dX7_canBe_261 : decode cX7_canBe 261 = .ok (.aload_n 0, 1) := by decide +kernel
theorem dX7_canBe_262 : decode cX7_canBe 262 = .ok (.getfield 31, 3) := by decide +kernel
theorem dX7_canBe_265 : decode cX7_canBe 265 = .ok (.iload_n 2, 1) := by decide +kernel
theorem dX7_canBe_266 : decode cX7_canBe 266 = .ok (.iaload, 1) := by decide +kernel
theorem dX7_canBe_267 : decode cX7_canBe 267 = .ok (.iconst 4, 1) := by decide +kernel
theorem dX7_canBe_268 : decode cX7_canBe 268 = .ok (.if_icmp .ne 20, 3) := by decide +kernel
theorem dX7_canBe_271 : decode cX7_canBe 271 = .ok (.aload_n 0, 1) := by decide +kernel
theorem dX7_canBe_272 : decode cX7_canBe 272 = .ok (.bipush 7, 2) := by decide +kernel
theorem dX7_canBe_274 : decode cX7_canBe 274 = .ok (.iload_n 2, 1) := by decide +kernel
theorem dX7_canBe_275 : decode cX7_canBe 275 = .ok (.iconst (-1), 1) := by decide +kernel
theorem dX7_canBe_276 : decode cX7_canBe 276 = .ok (.iload 4, 2) := by decide +kernel
theorem dX7_canBe_278 : decode cX7_canBe 278 = .ok (.invokevirtual 138, 3) := by decide +kernel
theorem dX7_canBe_281 : decode cX7_canBe 281 = .ok (.ifCond .ge 7, 3) := by decide +kernel
theorem dX7_canBe_284 : decode cX7_canBe 284 = .ok (.iconst 1, 1) := by decide +kernel
theorem dX7_canBe_285 : decode cX7_canBe 285 = .ok (.goto 4, 3) := by decide +kernel
theorem dX7_canBe_288 : decode cX7_canBe 288 = .ok (.iconst 0, 1) := by decide +kernel
theorem dX7_canBe_289 : decode cX7_canBe 289 = .ok (.ireturn, 1) := by decide +kernel
theorem dX7_canBe_290 : decode cX7_canBe 290 = .ok (.aload_n 0, 1) := by decide +kernel
theorem dX7_canBe_291 : decode cX7_canBe 291 = .ok (.getfield 31, 3) := by decide +kernel
theorem dX7_canBe_294 : decode cX7_canBe 294 = .ok (.iload_n 2, 1) := by decide +kernel
theorem dX7_canBe_295 : decode cX7_canBe 295 = .ok (.iaload, 1) := by decide +kernel
theorem dX7_canBe_296 : decode cX7_canBe 296 = .ok (.iconst 3, 1) := by decide +kernel
theorem dX7_canBe_297 : decode cX7_canBe 297 = .ok (.if_icmp .ne 20, 3) := by decide +kernel
theorem dX7_canBe_300 : decode cX7_canBe 300 = .ok (.aload_n 0, 1) := by decide +kernel
theorem dX7_canBe_301 : decode cX7_canBe 301 = .ok (.bipush 8, 2) := by decide +kernel
theorem dX7_canBe_303 : decode cX7_canBe 303 = .ok (.iload_n 2, 1) := by decide +kernel
theorem dX7_canBe_304 : decode cX7_canBe 304 = .ok (.iload_n 3, 1) := by decide +kernel
theorem dX7_canBe_305 : decode cX7_canBe 305 = .ok (.iload 4, 2) := by decide +kernel
theorem dX7_canBe_307 : decode cX7_canBe 307 = .ok (.invokevirtual 138, 3) := by decide +kernel
theorem dX7_canBe_310 : decode cX7_canBe 310 = .ok (.ifCond .ge 7, 3) := by decide +kernel
theorem dX7_canBe_313 : decode cX7_canBe 313 = .ok (.iconst 1, 1) := by decide +kernel
theorem dX7_canBe_314 : decode cX7_canBe 314 = .ok (.goto 4, 3) := by decide +kernel
theorem dX7_canBe_317 : decode cX7_canBe 317 = .ok (.iconst 0, 1) := by decide +kernel
theorem dX7_canBe_318 : decode cX7_canBe 318 = .ok (.ireturn, 1) := by decide +kernel
theorem dX7_paper_0 : decode cX7_paper 0 = .ok (.aload_n 0, 1) := by decide +kernel
theorem dX7_paper_1 : decode cX7_paper 1 = .ok (.getfield 105, 3) := by decide +kernel
theorem dX7_paper_4 : decode cX7_paper 4 = .ok (.sipush 400, 3) := by decide +kernel
theorem dX7_paper_7 : decode cX7_paper 7 = .ok (.if_icmp .eq 72, 3) := by decide +kernel
theorem dX7_paper_10 : decode cX7_paper 10 = .ok (.iload_n 1, 1) := by decide +kernel
theorem dX7_paper_11 : decode cX7_paper 11 = .ok (.iconst 0, 1) := by decide +kernel
theorem dX7_paper_12 : decode cX7_paper 12 = .ok (.bipush 8, 2) := by decide +kernel
theorem dX7_paper_14 : decode cX7_paper 14 = .ok (.invokestatic 86, 3) := by decide +kernel
theorem dX7_paper_17 : decode cX7_paper 17 = .ok (.ifCond .eq 62, 3) := by decide +kernel
theorem dX7_paper_20 : decode cX7_paper 20 = .ok (.aload_n 0, 1) := by decide +kernel
theorem dX7_paper_21 : decode cX7_paper 21 = .ok (.iload_n 2, 1) := by decide +kernel
theorem dX7_paper_22 : decode cX7_paper 22 = .ok (.invokevirtual 108, 3) := by decide +kernel
theorem dX7_paper_25 : decode cX7_paper 25 = .ok (.ifCond .eq 54, 3) := by decide +kernel
theorem dX7_paper_28 : decode cX7_paper 28 = .ok (.iload_n 1, 1) := by decide +kernel
theorem dX7_paper_29 : decode cX7_paper 29 = .ok (.iload_n 3, 1) := by decide +kernel
theorem dX7_paper_30 : decode cX7_paper 30 = .ok (.invokestatic 197, 3) := by decide +kernel
theorem dX7_paper_33 : decode cX7_paper 33 = .ok (.ifCond .eq 46, 3) := by decide +kernel
theorem dX7_paper_36 : decode cX7_paper 36 = .ok (.iload 4, 2) := by decide +kernel
theorem dX7_paper_38 : decode cX7_paper 38 = .ok (.invokestatic 200, 3) := by decide +kernel
theorem dX7_paper_41 : decode cX7_paper 41 = .ok (.ifCond .eq 38, 3) := by decide +kernel
theorem dX7_paper_44 : decode cX7_paper 44 = .ok (.aload_n 0, 1) := by decide +kernel
theorem dX7_paper_45 : decode cX7_paper 45 = .ok (.getfield 105, 3) := by decide +kernel
theorem dX7_paper_48 : decode cX7_paper 48 = .ok (.ifCond .le 19, 3) := by decide +kernel
theorem dX7_paper_51 : decode cX7_paper 51 = .ok (.iload 4, 2) := by decide +kernel
theorem dX7_paper_53 : decode cX7_paper 53 = .ok (.aload_n 0, 1) := by decide +kernel
theorem dX7_paper_54 : decode cX7_paper 54 = .ok (.getfield 58, 3) := by decide +kernel
theorem dX7_paper_57 : decode cX7_paper 57 = .ok (.aload_n 0, 1) := by decide +kernel
theorem dX7_paper_58 : decode cX7_paper 58 = .ok (.getfield 105, 3) := by decide +kernel
theorem dX7_paper_61 : decode cX7_paper 61 = .ok (.iconst 1, 1) := by decide +kernel
theorem dX7_paper_62 : decode cX7_paper 62 = .ok (.isub, 1) := by decide +kernel
theorem dX7_paper_63 : decode cX7_paper 63 = .ok (.iaload, 1) := by decide +kernel
theorem dX7_paper_64 : decode cX7_paper 64 = .ok (.if_icmp .lt 15, 3) := by decide +kernel
theorem dX7_paper_67 : decode cX7_paper 67 = .ok (.aload_n 0, 1) := by decide +kernel
theorem dX7_paper_68 : decode cX7_paper 68 = .ok (.iload_n 1, 1) := by decide +kernel
theorem dX7_paper_69 : decode cX7_paper 69 = .ok (.iload_n 2, 1) := by decide +kernel
theorem dX7_paper_70 : decode cX7_paper 70 = .ok (.iload_n 3, 1) := by decide +kernel
theorem dX7_paper_71 : decode cX7_paper 71 = .ok (.iload 4, 2) := by decide +kernel
theorem dX7_paper_73 : decode cX7_paper 73 = .ok (.invokevirtual 203, 3) := by decide +kernel
theorem dX7_paper_76 : decode cX7_paper 76 = .ok (.ifCond .ne 5, 3) := by decide +kernel
theorem dX7_paper_79 : decode cX7_paper 79 = .ok (.iconst (-1), 1) := by decide +kernel
theorem dX7_paper_80 : decode cX7_paper 80 = .ok (.ireturn, 1) := by decide +kernel
theorem dX7_paper_81 : decode cX7_paper 81 = .ok (.aload_n 0, 1) := by decide +kernel
theorem dX7_paper_82 : decode cX7_paper 82 = .ok (.getfield 49, 3) := by decide +kernel
theorem dX7_paper_85 : decode cX7_paper 85 = .ok (.aload_n 0, 1) := by decide +kernel
theorem dX7_paper_86 : decode cX7_paper 86 = .ok (.getfield 105, 3) := by decide +kernel
theorem dX7_paper_89 : decode cX7_paper 89 = .ok (.iload_n 1, 1) := by decide +kernel
theorem dX7_paper_90 : decode cX7_paper 90 = .ok (.iastore, 1) := by decide +kernel
theorem dX7_paper_91 : decode cX7_paper 91 = .ok (.aload_n 0, 1) := by decide +kernel
theorem dX7_paper_92 : decode cX7_paper 92 = .ok (.getfield 52, 3) := by decide +kernel
theorem dX7_paper_95 : decode cX7_paper 95 = .ok (.aload_n 0, 1) := by decide +kernel
theorem dX7_paper_96 : decode cX7_paper 96 = .ok (.getfield 105, 3) := by decide +kernel
theorem dX7_paper_99 : decode cX7_paper 99 = .ok (.iload_n 2, 1) := by decide +kernel
theorem dX7_paper_100 : decode cX7_paper 100 = .ok (.iastore, 1) := by decide +kernel
theorem dX7_paper_101 : decode cX7_paper 101 = .ok (.aload_n 0, 1) := by decide +kernel
theorem dX7_paper_102 : decode cX7_paper 102 = .ok (.getfield 55, 3) := by decide +kernel
theorem dX7_paper_105 : decode cX7_paper 105 = .ok (.aload_n 0, 1) := by decide +kernel
theorem dX7_paper_106 : decode cX7_paper 106 = .ok (.getfield 105, 3) := by decide +kernel
theorem dX7_paper_109 : decode cX7_paper 109 = .ok (.iload_n 3, 1) := by decide +kernel
theorem dX7_paper_110 : decode cX7_paper 110 = .ok (.iastore, 1) := by decide +kernel
theorem dX7_paper_111 : decode cX7_paper 111 = .ok (.aload_n 0, 1) := by decide +kernel
theorem dX7_paper_112 : decode cX7_paper 112 = .ok (.getfield 58, 3) := by decide +kernel
theorem dX7_paper_115 : decode cX7_paper 115 = .ok (.aload_n 0, 1) := by decide +kernel
theorem dX7_paper_116 : decode cX7_paper 116 = .ok (.getfield 105, 3) := by decide +kernel
theorem dX7_paper_119 : decode cX7_paper 119 = .ok (.iload 4, 2) := by decide +kernel
theorem dX7_paper_121 : decode cX7_paper 121 = .ok (.iastore, 1) := by decide +kernel
theorem dX7_paper_122 : decode cX7_paper 122 = .ok (.aload_n 0, 1) := by decide +kernel
theorem dX7_paper_123 : decode cX7_paper 123 = .ok (.dup, 1) := by decide +kernel
theorem dX7_paper_124 : decode cX7_paper 124 = .ok (.getfield 105, 3) := by decide +kernel
theorem dX7_paper_127 : decode cX7_paper 127 = .ok (.iconst 1, 1) := by decide +kernel
theorem dX7_paper_128 : decode cX7_paper 128 = .ok (.iadd, 1) := by decide +kernel
theorem dX7_paper_129 : decode cX7_paper 129 = .ok (.putfield 105, 3) := by decide +kernel
theorem dX7_paper_132 : decode cX7_paper 132 = .ok (.aload_n 0, 1) := by decide +kernel
theorem dX7_paper_133 : decode cX7_paper 133 = .ok (.getfield 105, 3) := by decide +kernel
theorem dX7_paper_136 : decode cX7_paper 136 = .ok (.iconst 1, 1) := by decide +kernel
theorem dX7_paper_137 : decode cX7_paper 137 = .ok (.isub, 1) := by decide +kernel
theorem dX7_paper_138 : decode cX7_paper 138 = .ok (.ireturn, 1) := by decide +kernel
theorem dX7_oppose_0 : decode cX7_oppose 0 = .ok (.aload_n 0, 1) := by decide +kernel
theorem dX7_oppose_1 : decode cX7_oppose 1 = .ok (.iload_n 1, 1) := by decide +kernel
theorem dX7_oppose_2 : decode cX7_oppose 2 = .ok (.invokevirtual 108, 3) := by decide +kernel
theorem dX7_oppose_5 : decode cX7_oppose 5 = .ok (.ifCond .eq 18, 3) := by decide +kernel
theorem dX7_oppose_8 : decode cX7_oppose 8 = .ok (.aload_n 0, 1) := by decide +kernel
theorem dX7_oppose_9 : decode cX7_oppose 9 = .ok (.iload_n 2, 1) := by decide +kernel
theorem dX7_oppose_10 : decode cX7_oppose 10 = .ok (.invokevirtual 108, 3) := by decide +kernel
theorem dX7_oppose_13 : decode cX7_oppose 13 = .ok (.ifCond .eq 10, 3) := by decide +kernel
theorem dX7_oppose_16 : decode cX7_oppose 16 = .ok (.iload_n 3, 1) := by decide +kernel
theorem dX7_oppose_17 : decode cX7_oppose 17 = .ok (.invokestatic 200, 3) := by decide +kernel
theorem dX7_oppose_20 : decode cX7_oppose 20 = .ok (.ifCond .ne 5, 3) := by decide +kernel
theorem dX7_oppose_23 : decode cX7_oppose 23 = .ok (.iconst (-1), 1) := by decide +kernel
theorem dX7_oppose_24 : decode cX7_oppose 24 = .ok (.ireturn, 1) := by decide +kernel
theorem dX7_oppose_25 : decode cX7_oppose 25 = .ok (.aload_n 0, 1) := by decide +kernel
theorem dX7_oppose_26 : decode cX7_oppose 26 = .ok (.iload_n 1, 1) := by decide +kernel
theorem dX7_oppose_27 : decode cX7_oppose 27 = .ok (.iload_n 3, 1) := by decide +kernel
theorem dX7_oppose_28 : decode cX7_oppose 28 = .ok (.invokevirtual 145, 3) := by decide +kernel
theorem dX7_oppose_31 : decode cX7_oppose 31 = .ok (.istore 4, 2) := by decide +kernel
theorem dX7_oppose_33 : decode cX7_oppose 33 = .ok (.iconst 0, 1) := by decide +kernel
theorem dX7_oppose_34 : decode cX7_oppose 34 = .ok (.istore 5, 2) := by decide +kernel
theorem dX7_oppose_36 : decode cX7_oppose 36 = .ok (.iconst 0, 1) := by decide +kernel
theorem dX7_oppose_37 : decode cX7_oppose 37 = .ok (.istore 6, 2) := by decide +kernel
theorem dX7_oppose_39 : decode cX7_oppose 39 = .ok (.iload 6, 2) := by decide +kernel
theorem dX7_oppose_41 : decode cX7_oppose 41 = .ok (.bipush 16, 2) := by decide +kernel
theorem dX7_oppose_43 : decode cX7_oppose 43 = .ok (.if_icmp .ge 33, 3) := by decide +kernel
theorem dX7_oppose_46 : decode cX7_oppose 46 = .ok (.iload 5, 2) := by decide +kernel
theorem dX7_oppose_48 : decode cX7_oppose 48 = .ok (.ifCond .ne 15, 3) := by decide +kernel
theorem dX7_oppose_51 : decode cX7_oppose 51 = .ok (.aload_n 0, 1) := by decide +kernel
theorem dX7_oppose_52 : decode cX7_oppose 52 = .ok (.iload_n 2, 1) := by decide +kernel
theorem dX7_oppose_53 : decode cX7_oppose 53 = .ok (.iload_n 1, 1) := by decide +kernel
theorem dX7_oppose_54 : decode cX7_oppose 54 = .ok (.iload 6, 2) := by decide +kernel
theorem dX7_oppose_56 : decode cX7_oppose 56 = .ok (.iload_n 3, 1) := by decide +kernel
theorem dX7_oppose_57 : decode cX7_oppose 57 = .ok (.invokevirtual 206, 3) := by decide +kernel
theorem dX7_oppose_60 : decode cX7_oppose 60 = .ok (.ifCond .lt 7, 3) := by decide +kernel
theorem dX7_oppose_63 : decode cX7_oppose 63 = .ok (.iconst 1, 1) := by decide +kernel
theorem dX7_oppose_64 : decode cX7_oppose 64 = .ok (.goto 4, 3) := by decide +kernel
theorem dX7_oppose_67 : decode cX7_oppose 67 = .ok (.iconst 0, 1) := by decide +kernel
theorem dX7_oppose_68 : decode cX7_oppose 68 = .ok (.istore 5, 2) := by decide +kernel
theorem dX7_oppose_70 : decode cX7_oppose 70 = .ok (.iinc 6 1, 3) := by decide +kernel
theorem dX7_oppose_73 : decode cX7_oppose 73 = .ok (.goto (-34), 3) := by decide +kernel
theorem dX7_oppose_76 : decode cX7_oppose 76 = .ok (.iload 5, 2) := by decide +kernel
theorem dX7_oppose_78 : decode cX7_oppose 78 = .ok (.ifCond .eq 28, 3) := by decide +kernel
theorem dX7_oppose_81 : decode cX7_oppose 81 = .ok (.iload 4, 2) := by decide +kernel
theorem dX7_oppose_83 : decode cX7_oppose 83 = .ok (.ifCond .lt 23, 3) := by decide +kernel
theorem dX7_oppose_86 : decode cX7_oppose 86 = .ok (.iload_n 3, 1) := by decide +kernel
theorem dX7_oppose_87 : decode cX7_oppose 87 = .ok (.iload 4, 2) := by decide +kernel
theorem dX7_oppose_89 : decode cX7_oppose 89 = .ok (.isub, 1) := by decide +kernel
theorem dX7_oppose_90 : decode cX7_oppose 90 = .ok (.bipush 90, 2) := by decide +kernel
theorem dX7_oppose_92 : decode cX7_oppose 92 = .ok (.if_icmp .gt 14, 3) := by decide +kernel
theorem dX7_oppose_95 : decode cX7_oppose 95 = .ok (.aload_n 0, 1) := by decide +kernel
theorem dX7_oppose_96 : decode cX7_oppose 96 = .ok (.iconst 4, 1) := by decide +kernel
theorem dX7_oppose_97 : decode cX7_oppose 97 = .ok (.iload_n 1, 1) := by decide +kernel
theorem dX7_oppose_98 : decode cX7_oppose 98 = .ok (.iconst 0, 1) := by decide +kernel
theorem dX7_oppose_99 : decode cX7_oppose 99 = .ok (.iload_n 3, 1) := by decide +kernel
theorem dX7_oppose_100 : decode cX7_oppose 100 = .ok (.invokevirtual 209, 3) := by decide +kernel
theorem dX7_oppose_103 : decode cX7_oppose 103 = .ok (.goto 4, 3) := by decide +kernel
theorem dX7_oppose_106 : decode cX7_oppose 106 = .ok (.iconst (-1), 1) := by decide +kernel
theorem dX7_oppose_107 : decode cX7_oppose 107 = .ok (.ireturn, 1) := by decide +kernel
theorem dX7_undo_0 : decode cX7_undo 0 = .ok (.aload_n 0, 1) := by decide +kernel
theorem dX7_undo_1 : decode cX7_undo 1 = .ok (.getfield 105, 3) := by decide +kernel
theorem dX7_undo_4 : decode cX7_undo 4 = .ok (.ifCond .ne 5, 3) := by decide +kernel
theorem dX7_undo_7 : decode cX7_undo 7 = .ok (.iconst (-1), 1) := by decide +kernel
theorem dX7_undo_8 : decode cX7_undo 8 = .ok (.ireturn, 1) := by decide +kernel
theorem dX7_undo_9 : decode cX7_undo 9 = .ok (.aload_n 0, 1) := by decide +kernel
theorem dX7_undo_10 : decode cX7_undo 10 = .ok (.dup, 1) := by decide +kernel
theorem dX7_undo_11 : decode cX7_undo 11 = .ok (.getfield 105, 3) := by decide +kernel
theorem dX7_undo_14 : decode cX7_undo 14 = .ok (.iconst 1, 1) := by decide +kernel
theorem dX7_undo_15 : decode cX7_undo 15 = .ok (.isub, 1) := by decide +kernel
theorem dX7_undo_16 : decode cX7_undo 16 = .ok (.putfield 105, 3) := by decide +kernel
theorem dX7_undo_19 : decode cX7_undo 19 = .ok (.aload_n 0, 1) := by decide +kernel
theorem dX7_undo_20 : decode cX7_undo 20 = .ok (.getfield 105, 3) := by decide +kernel
theorem dX7_undo_23 : decode cX7_undo 23 = .ok (.ireturn, 1) := by decide +kernel
theorem dX7_paperOf_0 : decode cX7_paperOf 0 = .ok (.iload_n 1, 1) := by decide +kernel
theorem dX7_paperOf_1 : decode cX7_paperOf 1 = .ok (.iconst 0, 1) := by decide +kernel
theorem dX7_paperOf_2 : decode cX7_paperOf 2 = .ok (.aload_n 0, 1) := by decide +kernel
theorem dX7_paperOf_3 : decode cX7_paperOf 3 = .ok (.getfield 105, 3) := by decide +kernel
theorem dX7_paperOf_6 : decode cX7_paperOf 6 = .ok (.iconst 1, 1) := by decide +kernel
theorem dX7_paperOf_7 : decode cX7_paperOf 7 = .ok (.isub, 1) := by decide +kernel
theorem dX7_paperOf_8 : decode cX7_paperOf 8 = .ok (.invokestatic 86, 3) := by decide +kernel
theorem dX7_paperOf_11 : decode cX7_paperOf 11 = .ok (.ifCond .ne 5, 3) := by decide +kernel
theorem dX7_paperOf_14 : decode cX7_paperOf 14 = .ok (.iconst (-1), 1) := by decide +kernel
theorem dX7_paperOf_15 : decode cX7_paperOf 15 = .ok (.ireturn, 1) := by decide +kernel
theorem dX7_paperOf_16 : decode cX7_paperOf 16 = .ok (.iload_n 2, 1) := by decide +kernel
theorem dX7_paperOf_17 : decode cX7_paperOf 17 = .ok (.tableswitch 59 0 3 #[31, 38, 45, 52], 31) := by decide +kernel
theorem dX7_paperOf_48 : decode cX7_paperOf 48 = .ok (.aload_n 0, 1) := by decide +kernel
theorem dX7_paperOf_49 : decode cX7_paperOf 49 = .ok (.getfield 49, 3) := by decide +kernel
theorem dX7_paperOf_52 : decode cX7_paperOf 52 = .ok (.iload_n 1, 1) := by decide +kernel
theorem dX7_paperOf_53 : decode cX7_paperOf 53 = .ok (.iaload, 1) := by decide +kernel
theorem dX7_paperOf_54 : decode cX7_paperOf 54 = .ok (.ireturn, 1) := by decide +kernel
theorem dX7_paperOf_55 : decode cX7_paperOf 55 = .ok (.aload_n 0, 1) := by decide +kernel
theorem dX7_paperOf_56 : decode cX7_paperOf 56 = .ok (.getfield 52, 3) := by decide +kernel
theorem dX7_paperOf_59 : decode cX7_paperOf 59 = .ok (.iload_n 1, 1) := by decide +kernel
theorem dX7_paperOf_60 : decode cX7_paperOf 60 = .ok (.iaload, 1) := by decide +kernel
theorem dX7_paperOf_61 : decode cX7_paperOf 61 = .ok (.ireturn, 1) := by decide +kernel
theorem dX7_paperOf_62 : decode cX7_paperOf 62 = .ok (.aload_n 0, 1) := by decide +kernel
theorem dX7_paperOf_63 : decode cX7_paperOf 63 = .ok (.getfield 55, 3) := by decide +kernel
theorem dX7_paperOf_66 : decode cX7_paperOf 66 = .ok (.iload_n 1, 1) := by decide +kernel
theorem dX7_paperOf_67 : decode cX7_paperOf 67 = .ok (.iaload, 1) := by decide +kernel
theorem dX7_paperOf_68 : decode cX7_paperOf 68 = .ok (.ireturn, 1) := by decide +kernel
theorem dX7_paperOf_69 : decode cX7_paperOf 69 = .ok (.aload_n 0, 1) := by decide +kernel
theorem dX7_paperOf_70 : decode cX7_paperOf 70 = .ok (.getfield 58, 3) := by decide +kernel
theorem dX7_paperOf_73 : decode cX7_paperOf 73 = .ok (.iload_n 1, 1) := by decide +kernel
theorem dX7_paperOf_74 : decode cX7_paperOf 74 = .ok (.iaload, 1) := by decide +kernel
theorem dX7_paperOf_75 : decode cX7_paperOf 75 = .ok (.ireturn, 1) := by decide +kernel
theorem dX7_paperOf_76 : decode cX7_paperOf 76 = .ok (.iconst (-1), 1) := by decide +kernel
theorem dX7_paperOf_77 : decode cX7_paperOf 77 = .ok (.ireturn, 1) := by decide +kernel
theorem dX7_markOf_0 : decode cX7_markOf 0 = .ok (.aload_n 0, 1) := by decide +kernel
theorem dX7_markOf_1 : decode cX7_markOf 1 = .ok (.iload_n 1, 1) := by decide +kernel
theorem dX7_markOf_2 : decode cX7_markOf 2 = .ok (.invokevirtual 108, 3) := by decide +kernel
theorem dX7_markOf_5 : decode cX7_markOf 5 = .ok (.ifCond .ne 5, 3) := by decide +kernel
theorem dX7_markOf_8 : decode cX7_markOf 8 = .ok (.iconst (-1), 1) := by decide +kernel
theorem dX7_markOf_9 : decode cX7_markOf 9 = .ok (.ireturn, 1) := by decide +kernel
theorem dX7_markOf_10 : decode cX7_markOf 10 = .ok (.iload_n 2, 1) := by decide +kernel
theorem dX7_markOf_11 : decode cX7_markOf 11 = .ok (.tableswitch 71 0 4 #[33, 40, 47, 54, 64], 33) := by decide +kernel
theorem dX7_markOf_44 : decode cX7_markOf 44 = .ok (.aload_n 0, 1) := by decide +kernel
theorem dX7_markOf_45 : decode cX7_markOf 45 = .ok (.getfield 31, 3) := by decide +kernel
theorem dX7_markOf_48 : decode cX7_markOf 48 = .ok (.iload_n 1, 1) := by decide +kernel
theorem dX7_markOf_49 : decode cX7_markOf 49 = .ok (.iaload, 1) := by decide +kernel
theorem dX7_markOf_50 : decode cX7_markOf 50 = .ok (.ireturn, 1) := by decide +kernel
theorem dX7_markOf_51 : decode cX7_markOf 51 = .ok (.aload_n 0, 1) := by decide +kernel
theorem dX7_markOf_52 : decode cX7_markOf 52 = .ok (.getfield 34, 3) := by decide +kernel
theorem dX7_markOf_55 : decode cX7_markOf 55 = .ok (.iload_n 1, 1) := by decide +kernel
theorem dX7_markOf_56 : decode cX7_markOf 56 = .ok (.iaload, 1) := by decide +kernel
theorem dX7_markOf_57 : decode cX7_markOf 57 = .ok (.ireturn, 1) := by decide +kernel
theorem dX7_markOf_58 : decode cX7_markOf 58 = .ok (.aload_n 0, 1) := by decide +kernel
theorem dX7_markOf_59 : decode cX7_markOf 59 = .ok (.getfield 37, 3) := by decide +kernel
theorem dX7_markOf_62 : decode cX7_markOf 62 = .ok (.iload_n 1, 1) := by decide +kernel
theorem dX7_markOf_63 : decode cX7_markOf 63 = .ok (.iaload, 1) := by decide +kernel
theorem dX7_markOf_64 : decode cX7_markOf 64 = .ok (.ireturn, 1) := by decide +kernel
theorem dX7_markOf_65 : decode cX7_markOf 65 = .ok (.aload_n 0, 1) := by decide +kernel
theorem dX7_markOf_66 : decode cX7_markOf 66 = .ok (.iload_n 1, 1) := by decide +kernel
theorem dX7_markOf_67 : decode cX7_markOf 67 = .ok (.aload_n 0, 1) := by decide +kernel
theorem dX7_markOf_68 : decode cX7_markOf 68 = .ok (.getfield 61, 3) := by decide +kernel
theorem dX7_markOf_71 : decode cX7_markOf 71 = .ok (.invokevirtual 121, 3) := by decide +kernel
theorem dX7_markOf_74 : decode cX7_markOf 74 = .ok (.ireturn, 1) := by decide +kernel
theorem dX7_markOf_75 : decode cX7_markOf 75 = .ok (.aload_n 0, 1) := by decide +kernel
theorem dX7_markOf_76 : decode cX7_markOf 76 = .ok (.getfield 43, 3) := by decide +kernel
theorem dX7_markOf_79 : decode cX7_markOf 79 = .ok (.iload_n 1, 1) := by decide +kernel
theorem dX7_markOf_80 : decode cX7_markOf 80 = .ok (.iaload, 1) := by decide +kernel
theorem dX7_markOf_81 : decode cX7_markOf 81 = .ok (.ireturn, 1) := by decide +kernel
theorem dX7_markOf_82 : decode cX7_markOf 82 = .ok (.iconst (-1), 1) := by decide +kernel
theorem dX7_markOf_83 : decode cX7_markOf 83 = .ok (.ireturn, 1) := by decide +kernel
theorem dX7_soundOf_0 : decode cX7_soundOf 0 = .ok (.aload_n 0, 1) := by decide +kernel
theorem dX7_soundOf_1 : decode cX7_soundOf 1 = .ok (.iload_n 1, 1) := by decide +kernel
theorem dX7_soundOf_2 : decode cX7_soundOf 2 = .ok (.invokevirtual 108, 3) := by decide +kernel
theorem dX7_soundOf_5 : decode cX7_soundOf 5 = .ok (.ifCond .eq 31, 3) := by decide +kernel
theorem dX7_soundOf_8 : decode cX7_soundOf 8 = .ok (.iload_n 2, 1) := by decide +kernel
theorem dX7_soundOf_9 : decode cX7_soundOf 9 = .ok (.iconst 0, 1) := by decide +kernel
theorem dX7_soundOf_10 : decode cX7_soundOf 10 = .ok (.aload_n 0, 1) := by decide +kernel
theorem dX7_soundOf_11 : decode cX7_soundOf 11 = .ok (.iload_n 1, 1) := by decide +kernel
theorem dX7_soundOf_12 : decode cX7_soundOf 12 = .ok (.aload_n 0, 1) := by decide +kernel
theorem dX7_soundOf_13 : decode cX7_soundOf 13 = .ok (.getfield 61, 3) := by decide +kernel
theorem dX7_soundOf_16 : decode cX7_soundOf 16 = .ok (.invokevirtual 121, 3) := by decide +kernel
theorem dX7_soundOf_19 : decode cX7_soundOf 19 = .ok (.iconst 1, 1) := by decide +kernel
theorem dX7_soundOf_20 : decode cX7_soundOf 20 = .ok (.isub, 1) := by decide +kernel
theorem dX7_soundOf_21 : decode cX7_soundOf 21 = .ok (.invokestatic 86, 3) := by decide +kernel
theorem dX7_soundOf_24 : decode cX7_soundOf 24 = .ok (.ifCond .eq 12, 3) := by decide +kernel
theorem dX7_soundOf_27 : decode cX7_soundOf 27 = .ok (.aload_n 0, 1) := by decide +kernel
theorem dX7_soundOf_28 : decode cX7_soundOf 28 = .ok (.getfield 61, 3) := by decide +kernel
theorem dX7_soundOf_31 : decode cX7_soundOf 31 = .ok (.iload_n 2, 1) := by decide +kernel
theorem dX7_soundOf_32 : decode cX7_soundOf 32 = .ok (.iaload, 1) := by decide +kernel
theorem dX7_soundOf_33 : decode cX7_soundOf 33 = .ok (.goto 4, 3) := by decide +kernel
theorem dX7_soundOf_36 : decode cX7_soundOf 36 = .ok (.iconst (-1), 1) := by decide +kernel
theorem dX7_soundOf_37 : decode cX7_soundOf 37 = .ok (.ireturn, 1) := by decide +kernel
theorem dX7_like_0 : decode cX7_like 0 = .ok (.aload_n 0, 1) := by decide +kernel
theorem dX7_like_1 : decode cX7_like 1 = .ok (.iload_n 1, 1) := by decide +kernel
theorem dX7_like_2 : decode cX7_like 2 = .ok (.invokevirtual 108, 3) := by decide +kernel
theorem dX7_like_5 : decode cX7_like 5 = .ok (.ifCond .eq 20, 3) := by decide +kernel
theorem dX7_like_8 : decode cX7_like 8 = .ok (.aload_n 0, 1) := by decide +kernel
theorem dX7_like_9 : decode cX7_like 9 = .ok (.iload_n 2, 1) := by decide +kernel
theorem dX7_like_10 : decode cX7_like 10 = .ok (.invokevirtual 108, 3) := by decide +kernel
theorem dX7_like_13 : decode cX7_like 13 = .ok (.ifCond .eq 12, 3) := by decide +kernel
theorem dX7_like_16 : decode cX7_like 16 = .ok (.iload_n 3, 1) := by decide +kernel
theorem dX7_like_17 : decode cX7_like 17 = .ok (.iconst 0, 1) := by decide +kernel
theorem dX7_like_18 : decode cX7_like 18 = .ok (.iconst 1, 1) := by decide +kernel
theorem dX7_like_19 : decode cX7_like 19 = .ok (.invokestatic 86, 3) := by decide +kernel
theorem dX7_like_22 : decode cX7_like 22 = .ok (.ifCond .ne 5, 3) := by decide +kernel
theorem dX7_like_25 : decode cX7_like 25 = .ok (.iconst (-1), 1) := by decide +kernel
theorem dX7_like_26 : decode cX7_like 26 = .ok (.ireturn, 1) := by decide +kernel
theorem dX7_like_27 : decode cX7_like 27 = .ok (.iload_n 3, 1) := by decide +kernel
theorem dX7_like_28 : decode cX7_like 28 = .ok (.ifCond .ne 12, 3) := by decide +kernel
theorem dX7_like_31 : decode cX7_like 31 = .ok (.aload_n 0, 1) := by decide +kernel
theorem dX7_like_32 : decode cX7_like 32 = .ok (.iload_n 1, 1) := by decide +kernel
theorem dX7_like_33 : decode cX7_like 33 = .ok (.iload_n 2, 1) := by decide +kernel
theorem dX7_like_34 : decode cX7_like 34 = .ok (.invokevirtual 135, 3) := by decide +kernel
theorem dX7_like_37 : decode cX7_like 37 = .ok (.goto 9, 3) := by decide +kernel
theorem dX7_like_40 : decode cX7_like 40 = .ok (.aload_n 0, 1) := by decide +kernel
theorem dX7_like_41 : decode cX7_like 41 = .ok (.iload_n 1, 1) := by decide +kernel
theorem dX7_like_42 : decode cX7_like 42 = .ok (.iload_n 2, 1) := by decide +kernel
theorem dX7_like_43 : decode cX7_like 43 = .ok (.invokevirtual 126, 3) := by decide +kernel
theorem dX7_like_46 : decode cX7_like 46 = .ok (.ireturn, 1) := by decide +kernel
theorem dX7_right_0 : decode cX7_right 0 = .ok (.aload_n 0, 1) := by decide +kernel
theorem dX7_right_1 : decode cX7_right 1 = .ok (.iload_n 1, 1) := by decide +kernel
theorem dX7_right_2 : decode cX7_right 2 = .ok (.invokevirtual 108, 3) := by decide +kernel
theorem dX7_right_5 : decode cX7_right 5 = .ok (.ifCond .eq 25, 3) := by decide +kernel
theorem dX7_right_8 : decode cX7_right 8 = .ok (.iload_n 2, 1) := by decide +kernel
theorem dX7_right_9 : decode cX7_right 9 = .ok (.invokestatic 94, 3) := by decide +kernel
theorem dX7_right_12 : decode cX7_right 12 = .ok (.ifCond .eq 18, 3) := by decide +kernel
theorem dX7_right_15 : decode cX7_right 15 = .ok (.iload_n 3, 1) := by decide +kernel
theorem dX7_right_16 : decode cX7_right 16 = .ok (.invokestatic 194, 3) := by decide +kernel
theorem dX7_right_19 : decode cX7_right 19 = .ok (.ifCond .eq 11, 3) := by decide +kernel
theorem dX7_right_22 : decode cX7_right 22 = .ok (.iload 4, 2) := by decide +kernel
theorem dX7_right_24 : decode cX7_right 24 = .ok (.invokestatic 200, 3) := by decide +kernel
theorem dX7_right_27 : decode cX7_right 27 = .ok (.ifCond .ne 5, 3) := by decide +kernel
theorem dX7_right_30 : decode cX7_right 30 = .ok (.iconst (-1), 1) := by decide +kernel
theorem dX7_right_31 : decode cX7_right 31 = .ok (.ireturn, 1) := by decide +kernel
theorem dX7_right_32 : decode cX7_right 32 = .ok (.iload 5, 2) := by decide +kernel
theorem dX7_right_34 : decode cX7_right 34 = .ok (.tableswitch 63 0 2 #[26, 35, 45], 26) := by decide +kernel
theorem dX7_right_60 : decode cX7_right 60 = .ok (.aload_n 0, 1) := by decide +kernel
theorem dX7_right_61 : decode cX7_right 61 = .ok (.iload_n 1, 1) := by decide +kernel
theorem dX7_right_62 : decode cX7_right 62 = .ok (.iload_n 2, 1) := by decide +kernel
theorem dX7_right_63 : decode cX7_right 63 = .ok (.iload 4, 2) := by decide +kernel
theorem dX7_right_65 : decode cX7_right 65 = .ok (.invokevirtual 155, 3) := by decide +kernel
theorem dX7_right_68 : decode cX7_right 68 = .ok (.ireturn, 1) := by decide +kernel
theorem dX7_right_69 : decode cX7_right 69 = .ok (.aload_n 0, 1) := by decide +kernel
theorem dX7_right_70 : decode cX7_right 70 = .ok (.iload_n 1, 1) := by decide +kernel
theorem dX7_right_71 : decode cX7_right 71 = .ok (.iload_n 2, 1) := by decide +kernel
theorem dX7_right_72 : decode cX7_right 72 = .ok (.iload_n 3, 1) := by decide +kernel
theorem dX7_right_73 : decode cX7_right 73 = .ok (.iload 4, 2) := by decide +kernel
theorem dX7_right_75 : decode cX7_right 75 = .ok (.invokevirtual 158, 3) := by decide +kernel
theorem dX7_right_78 : decode cX7_right 78 = .ok (.ireturn, 1) := by decide +kernel
theorem dX7_right_79 : decode cX7_right 79 = .ok (.aload_n 0, 1) := by decide +kernel
theorem dX7_right_80 : decode cX7_right 80 = .ok (.iload_n 1, 1) := by decide +kernel
theorem dX7_right_81 : decode cX7_right 81 = .ok (.iload_n 2, 1) := by decide +kernel
theorem dX7_right_82 : decode cX7_right 82 = .ok (.iload_n 3, 1) := by decide +kernel
theorem dX7_right_83 : decode cX7_right 83 = .ok (.iload 4, 2) := by decide +kernel
theorem dX7_right_85 : decode cX7_right 85 = .ok (.invokevirtual 180, 3) := by decide +kernel
theorem dX7_right_88 : decode cX7_right 88 = .ok (.ifCond .eq 7, 3) := by decide +kernel
theorem dX7_right_91 : decode cX7_right 91 = .ok (.iconst 1, 1) := by decide +kernel
theorem dX7_right_92 : decode cX7_right 92 = .ok (.goto 4, 3) := by decide +kernel
theorem dX7_right_95 : decode cX7_right 95 = .ok (.iconst 0, 1) := by decide +kernel
theorem dX7_right_96 : decode cX7_right 96 = .ok (.ireturn, 1) := by decide +kernel
theorem dX7_right_97 : decode cX7_right 97 = .ok (.iconst (-1), 1) := by decide +kernel
theorem dX7_right_98 : decode cX7_right 98 = .ok (.ireturn, 1) := by decide +kernel
theorem dX7_state_0 : decode cX7_state 0 = .ok (.aload_n 0, 1) := by decide +kernel
theorem dX7_state_1 : decode cX7_state 1 = .ok (.iload_n 1, 1) := by decide +kernel
theorem dX7_state_2 : decode cX7_state 2 = .ok (.invokevirtual 108, 3) := by decide +kernel
theorem dX7_state_5 : decode cX7_state 5 = .ok (.ifCond .eq 10, 3) := by decide +kernel
theorem dX7_state_8 : decode cX7_state 8 = .ok (.iload_n 2, 1) := by decide +kernel
theorem dX7_state_9 : decode cX7_state 9 = .ok (.invokestatic 200, 3) := by decide +kernel
theorem dX7_state_12 : decode cX7_state 12 = .ok (.ifCond .ne 5, 3) := by decide +kernel
theorem dX7_state_15 : decode cX7_state 15 = .ok (.iconst (-1), 1) := by decide +kernel
theorem dX7_state_16 : decode cX7_state 16 = .ok (.ireturn, 1) := by decide +kernel
theorem dX7_state_17 : decode cX7_state 17 = .ok (.aload_n 0, 1) := by decide +kernel
theorem dX7_state_18 : decode cX7_state 18 = .ok (.iload_n 1, 1) := by decide +kernel
theorem dX7_state_19 : decode cX7_state 19 = .ok (.iload_n 2, 1) := by decide +kernel
theorem dX7_state_20 : decode cX7_state 20 = .ok (.invokevirtual 145, 3) := by decide +kernel
theorem dX7_state_23 : decode cX7_state 23 = .ok (.ifCond .lt 7, 3) := by decide +kernel
theorem dX7_state_26 : decode cX7_state 26 = .ok (.iconst 1, 1) := by decide +kernel
theorem dX7_state_27 : decode cX7_state 27 = .ok (.goto 4, 3) := by decide +kernel
theorem dX7_state_30 : decode cX7_state 30 = .ok (.iconst 0, 1) := by decide +kernel
theorem dX7_state_31 : decode cX7_state 31 = .ok (.istore 4, 2) := by decide +kernel
theorem dX7_state_33 : decode cX7_state 33 = .ok (.iload_n 3, 1) := by decide +kernel
theorem dX7_state_34 : decode cX7_state 34 = .ok (.tableswitch 119 0 5 #[38, 45, 61, 85, 100, 111], 38) := by decide +kernel
theorem dX7_state_72 : decode cX7_state 72 = .ok (.aload_n 0, 1) := by decide +kernel
theorem dX7_state_73 : decode cX7_state 73 = .ok (.iload_n 1, 1) := by decide +kernel
theorem dX7_state_74 : decode cX7_state 74 = .ok (.iload_n 2, 1) := by decide +kernel
theorem dX7_state_75 : decode cX7_state 75 = .ok (.invokevirtual 145, 3) := by decide +kernel
theorem dX7_state_78 : decode cX7_state 78 = .ok (.ireturn, 1) := by decide +kernel
theorem dX7_state_79 : decode cX7_state 79 = .ok (.iload 4, 2) := by decide +kernel
theorem dX7_state_81 : decode cX7_state 81 = .ok (.ifCond .eq 12, 3) := by decide +kernel
theorem dX7_state_84 : decode cX7_state 84 = .ok (.aload_n 0, 1) := by decide +kernel
theorem dX7_state_85 : decode cX7_state 85 = .ok (.iload_n 1, 1) := by decide +kernel
theorem dX7_state_86 : decode cX7_state 86 = .ok (.iload_n 2, 1) := by decide +kernel
theorem dX7_state_87 : decode cX7_state 87 = .ok (.invokevirtual 152, 3) := by decide +kernel
theorem dX7_state_90 : decode cX7_state 90 = .ok (.goto 4, 3) := by decide +kernel
theorem dX7_state_93 : decode cX7_state 93 = .ok (.iconst (-1), 1) := by decide +kernel
theorem dX7_state_94 : decode cX7_state 94 = .ok (.ireturn, 1) := by decide +kernel
theorem dX7_state_95 : decode cX7_state 95 = .ok (.iload 4, 2) := by decide +kernel
theorem dX7_state_97 : decode cX7_state 97 = .ok (.ifCond .ne 7, 3) := by decide +kernel
theorem dX7_state_100 : decode cX7_state 100 = .ok (.iconst (-1), 1) := by decide +kernel
theorem dX7_state_101 : decode cX7_state 101 = .ok (.goto 17, 3) := by decide +kernel
theorem dX7_state_104 : decode cX7_state 104 = .ok (.aload_n 0, 1) := by decide +kernel
theorem dX7_state_105 : decode cX7_state 105 = .ok (.iload_n 1, 1) := by decide +kernel
theorem dX7_state_106 : decode cX7_state 106 = .ok (.iload_n 2, 1) := by decide +kernel
theorem dX7_state_107 : decode cX7_state 107 = .ok (.invokevirtual 161, 3) := by decide +kernel
theorem dX7_state_110 : decode cX7_state 110 = .ok (.ifCond .eq 7, 3) := by decide +kernel
theorem dX7_state_113 : decode cX7_state 113 = .ok (.iconst 1, 1) := by decide +kernel
theorem dX7_state_114 : decode cX7_state 114 = .ok (.goto 4, 3) := by decide +kernel
theorem dX7_state_117 : decode cX7_state 117 = .ok (.iconst 0, 1) := by decide +kernel
theorem dX7_state_118 : decode cX7_state 118 = .ok (.ireturn, 1) := by decide +kernel
theorem dX7_state_119 : decode cX7_state 119 = .ok (.aload_n 0, 1) := by decide +kernel
theorem dX7_state_120 : decode cX7_state 120 = .ok (.iload_n 1, 1) := by decide +kernel
theorem dX7_state_121 : decode cX7_state 121 = .ok (.iload_n 2, 1) := by decide +kernel
theorem dX7_state_122 : decode cX7_state 122 = .ok (.invokevirtual 164, 3) := by decide +kernel
theorem dX7_state_125 : decode cX7_state 125 = .ok (.ifCond .eq 7, 3) := by decide +kernel
theorem dX7_state_128 : decode cX7_state 128 = .ok (.iconst 1, 1) := by decide +kernel
theorem dX7_state_129 : decode cX7_state 129 = .ok (.goto 4, 3) := by decide +kernel
theorem dX7_state_132 : decode cX7_state 132 = .ok (.iconst 0, 1) := by decide +kernel
theorem dX7_state_133 : decode cX7_state 133 = .ok (.ireturn, 1) := by decide +kernel
theorem dX7_state_134 : decode cX7_state 134 = .ok (.aload_n 0, 1) := by decide +kernel
theorem dX7_state_135 : decode cX7_state 135 = .ok (.iload_n 1, 1) := by decide +kernel
theorem dX7_state_136 : decode cX7_state 136 = .ok (.iload_n 2, 1) := by decide +kernel
theorem dX7_state_137 : decode cX7_state 137 = .ok (.aload_n 0, 1) := by decide +kernel
theorem dX7_state_138 : decode cX7_state 138 = .ok (.getfield 70, 3) := by decide +kernel
theorem dX7_state_141 : decode cX7_state 141 = .ok (.invokevirtual 186, 3) := by decide +kernel
theorem dX7_state_144 : decode cX7_state 144 = .ok (.ireturn, 1) := by decide +kernel
theorem dX7_state_145 : decode cX7_state 145 = .ok (.aload_n 0, 1) := by decide +kernel
theorem dX7_state_146 : decode cX7_state 146 = .ok (.iconst 1, 1) := by decide +kernel
theorem dX7_state_147 : decode cX7_state 147 = .ok (.iload_n 1, 1) := by decide +kernel
theorem dX7_state_148 : decode cX7_state 148 = .ok (.iload_n 2, 1) := by decide +kernel
theorem dX7_state_149 : decode cX7_state 149 = .ok (.invokevirtual 148, 3) := by decide +kernel
theorem dX7_state_152 : decode cX7_state 152 = .ok (.ireturn, 1) := by decide +kernel
theorem dX7_state_153 : decode cX7_state 153 = .ok (.iconst (-1), 1) := by decide +kernel
theorem dX7_state_154 : decode cX7_state 154 = .ok (.ireturn, 1) := by decide +kernel
theorem dX7_clash_0 : decode cX7_clash 0 = .ok (.aload_n 0, 1) := by decide +kernel
theorem dX7_clash_1 : decode cX7_clash 1 = .ok (.iload_n 1, 1) := by decide +kernel
theorem dX7_clash_2 : decode cX7_clash 2 = .ok (.invokevirtual 108, 3) := by decide +kernel
theorem dX7_clash_5 : decode cX7_clash 5 = .ok (.ifCond .eq 38, 3) := by decide +kernel
theorem dX7_clash_8 : decode cX7_clash 8 = .ok (.aload_n 0, 1) := by decide +kernel
theorem dX7_clash_9 : decode cX7_clash 9 = .ok (.iload_n 2, 1) := by decide +kernel
theorem dX7_clash_10 : decode cX7_clash 10 = .ok (.invokevirtual 108, 3) := by decide +kernel
theorem dX7_clash_13 : decode cX7_clash 13 = .ok (.ifCond .eq 30, 3) := by decide +kernel
theorem dX7_clash_16 : decode cX7_clash 16 = .ok (.iload_n 3, 1) := by decide +kernel
theorem dX7_clash_17 : decode cX7_clash 17 = .ok (.invokestatic 194, 3) := by decide +kernel
theorem dX7_clash_20 : decode cX7_clash 20 = .ok (.ifCond .eq 23, 3) := by decide +kernel
theorem dX7_clash_23 : decode cX7_clash 23 = .ok (.iload 4, 2) := by decide +kernel
theorem dX7_clash_25 : decode cX7_clash 25 = .ok (.invokestatic 200, 3) := by decide +kernel
theorem dX7_clash_28 : decode cX7_clash 28 = .ok (.ifCond .eq 15, 3) := by decide +kernel
theorem dX7_clash_31 : decode cX7_clash 31 = .ok (.aload_n 0, 1) := by decide +kernel
theorem dX7_clash_32 : decode cX7_clash 32 = .ok (.iload_n 1, 1) := by decide +kernel
theorem dX7_clash_33 : decode cX7_clash 33 = .ok (.iload_n 2, 1) := by decide +kernel
theorem dX7_clash_34 : decode cX7_clash 34 = .ok (.iload_n 3, 1) := by decide +kernel
theorem dX7_clash_35 : decode cX7_clash 35 = .ok (.iload 4, 2) := by decide +kernel
theorem dX7_clash_37 : decode cX7_clash 37 = .ok (.invokevirtual 206, 3) := by decide +kernel
theorem dX7_clash_40 : decode cX7_clash 40 = .ok (.goto 4, 3) := by decide +kernel
theorem dX7_clash_43 : decode cX7_clash 43 = .ok (.iconst (-1), 1) := by decide +kernel
theorem dX7_clash_44 : decode cX7_clash 44 = .ok (.ireturn, 1) := by decide +kernel
theorem dX7_first_0 : decode cX7_first 0 = .ok (.aload_n 0, 1) := by decide +kernel
theorem dX7_first_1 : decode cX7_first 1 = .ok (.iload_n 1, 1) := by decide +kernel
theorem dX7_first_2 : decode cX7_first 2 = .ok (.invokevirtual 108, 3) := by decide +kernel
theorem dX7_first_5 : decode cX7_first 5 = .ok (.ifCond .eq 17, 3) := by decide +kernel
theorem dX7_first_8 : decode cX7_first 8 = .ok (.iload_n 2, 1) := by decide +kernel
theorem dX7_first_9 : decode cX7_first 9 = .ok (.invokestatic 194, 3) := by decide +kernel
theorem dX7_first_12 : decode cX7_first 12 = .ok (.ifCond .eq 10, 3) := by decide +kernel
theorem dX7_first_15 : decode cX7_first 15 = .ok (.iload_n 3, 1) := by decide +kernel
theorem dX7_first_16 : decode cX7_first 16 = .ok (.invokestatic 200, 3) := by decide +kernel
theorem dX7_first_19 : decode cX7_first 19 = .ok (.ifCond .ne 5, 3) := by decide +kernel
theorem dX7_first_22 : decode cX7_first 22 = .ok (.iconst (-1), 1) := by decide +kernel
theorem dX7_first_23 : decode cX7_first 23 = .ok (.ireturn, 1) := by decide +kernel
theorem dX7_first_24 : decode cX7_first 24 = .ok (.iconst (-1), 1) := by decide +kernel
theorem dX7_first_25 : decode cX7_first 25 = .ok (.istore 4, 2) := by decide +kernel
theorem dX7_first_27 : decode cX7_first 27 = .ok (.iconst 0, 1) := by decide +kernel
theorem dX7_first_28 : decode cX7_first 28 = .ok (.istore 5, 2) := by decide +kernel
theorem dX7_first_30 : decode cX7_first 30 = .ok (.iconst 0, 1) := by decide +kernel
theorem dX7_first_31 : decode cX7_first 31 = .ok (.istore 6, 2) := by decide +kernel
theorem dX7_first_33 : decode cX7_first 33 = .ok (.iload 6, 2) := by decide +kernel
theorem dX7_first_35 : decode cX7_first 35 = .ok (.aload_n 0, 1) := by decide +kernel
theorem dX7_first_36 : decode cX7_first 36 = .ok (.getfield 83, 3) := by decide +kernel
theorem dX7_first_39 : decode cX7_first 39 = .ok (.if_icmp .ge 45, 3) := by decide +kernel
theorem dX7_first_42 : decode cX7_first 42 = .ok (.aload_n 0, 1) := by decide +kernel
theorem dX7_first_43 : decode cX7_first 43 = .ok (.iload 6, 2) := by decide +kernel
theorem dX7_first_45 : decode cX7_first 45 = .ok (.iload_n 1, 1) := by decide +kernel
theorem dX7_first_46 : decode cX7_first 46 = .ok (.iload_n 2, 1) := by decide +kernel
theorem dX7_first_47 : decode cX7_first 47 = .ok (.iload_n 3, 1) := by decide +kernel
theorem dX7_first_48 : decode cX7_first 48 = .ok (.invokevirtual 212, 3) := by decide +kernel
theorem dX7_first_51 : decode cX7_first 51 = .ok (.istore 7, 2) := by decide +kernel
theorem dX7_first_53 : decode cX7_first 53 = .ok (.iload 7, 2) := by decide +kernel
theorem dX7_first_55 : decode cX7_first 55 = .ok (.ifCond .lt 23, 3) := by decide +kernel
theorem dX7_first_58 : decode cX7_first 58 = .ok (.iload 4, 2) := by decide +kernel
theorem dX7_first_60 : decode cX7_first 60 = .ok (.ifCond .lt 10, 3) := by decide +kernel
theorem dX7_first_63 : decode cX7_first 63 = .ok (.iload 7, 2) := by decide +kernel
theorem dX7_first_65 : decode cX7_first 65 = .ok (.iload 5, 2) := by decide +kernel
theorem dX7_first_67 : decode cX7_first 67 = .ok (.if_icmp .ge 11, 3) := by decide +kernel
theorem dX7_first_70 : decode cX7_first 70 = .ok (.iload 6, 2) := by decide +kernel
theorem dX7_first_72 : decode cX7_first 72 = .ok (.istore 4, 2) := by decide +kernel
theorem dX7_first_74 : decode cX7_first 74 = .ok (.iload 7, 2) := by decide +kernel
theorem dX7_first_76 : decode cX7_first 76 = .ok (.istore 5, 2) := by decide +kernel
theorem dX7_first_78 : decode cX7_first 78 = .ok (.iinc 6 1, 3) := by decide +kernel
theorem dX7_first_81 : decode cX7_first 81 = .ok (.goto (-48), 3) := by decide +kernel
theorem dX7_first_84 : decode cX7_first 84 = .ok (.iload 4, 2) := by decide +kernel
theorem dX7_first_86 : decode cX7_first 86 = .ok (.ireturn, 1) := by decide +kernel
theorem dX7_nearRight_0 : decode cX7_nearRight 0 = .ok (.iconst (-1), 1) := by decide +kernel
theorem dX7_nearRight_1 : decode cX7_nearRight 1 = .ok (.istore 5, 2) := by decide +kernel
theorem dX7_nearRight_3 : decode cX7_nearRight 3 = .ok (.aload_n 0, 1) := by decide +kernel
theorem dX7_nearRight_4 : decode cX7_nearRight 4 = .ok (.iload_n 1, 1) := by decide +kernel
theorem dX7_nearRight_5 : decode cX7_nearRight 5 = .ok (.iload 4, 2) := by decide +kernel
theorem dX7_nearRight_7 : decode cX7_nearRight 7 = .ok (.aload_n 0, 1) := by decide +kernel
theorem dX7_nearRight_8 : decode cX7_nearRight 8 = .ok (.getfield 70, 3) := by decide +kernel
theorem dX7_nearRight_11 : decode cX7_nearRight 11 = .ok (.invokevirtual 186, 3) := by decide +kernel
theorem dX7_nearRight_14 : decode cX7_nearRight 14 = .ok (.istore 6, 2) := by decide +kernel
theorem dX7_nearRight_16 : decode cX7_nearRight 16 = .ok (.iconst 0, 1) := by decide +kernel
theorem dX7_nearRight_17 : decode cX7_nearRight 17 = .ok (.istore 7, 2) := by decide +kernel
theorem dX7_nearRight_19 : decode cX7_nearRight 19 = .ok (.iload 7, 2) := by decide +kernel
theorem dX7_nearRight_21 : decode cX7_nearRight 21 = .ok (.iload 6, 2) := by decide +kernel
theorem dX7_nearRight_23 : decode cX7_nearRight 23 = .ok (.if_icmp .ge 83, 3) := by decide +kernel
theorem dX7_nearRight_26 : decode cX7_nearRight 26 = .ok (.aload_n 0, 1) := by decide +kernel
theorem dX7_nearRight_27 : decode cX7_nearRight 27 = .ok (.iload_n 1, 1) := by decide +kernel
theorem dX7_nearRight_28 : decode cX7_nearRight 28 = .ok (.aload_n 0, 1) := by decide +kernel
theorem dX7_nearRight_29 : decode cX7_nearRight 29 = .ok (.getfield 70, 3) := by decide +kernel
theorem dX7_nearRight_32 : decode cX7_nearRight 32 = .ok (.iload 7, 2) := by decide +kernel
theorem dX7_nearRight_34 : decode cX7_nearRight 34 = .ok (.iaload, 1) := by decide +kernel
theorem dX7_nearRight_35 : decode cX7_nearRight 35 = .ok (.iload_n 2, 1) := by decide +kernel
theorem dX7_nearRight_36 : decode cX7_nearRight 36 = .ok (.iload 4, 2) := by decide +kernel
theorem dX7_nearRight_38 : decode cX7_nearRight 38 = .ok (.invokevirtual 176, 3) := by decide +kernel
theorem dX7_nearRight_41 : decode cX7_nearRight 41 = .ok (.ifCond .eq 59, 3) := by decide +kernel
theorem dX7_nearRight_44 : decode cX7_nearRight 44 = .ok (.aload_n 0, 1) := by decide +kernel
theorem dX7_nearRight_45 : decode cX7_nearRight 45 = .ok (.iload_n 1, 1) := by decide +kernel
theorem dX7_nearRight_46 : decode cX7_nearRight 46 = .ok (.aload_n 0, 1) := by decide +kernel
theorem dX7_nearRight_47 : decode cX7_nearRight 47 = .ok (.getfield 70, 3) := by decide +kernel
theorem dX7_nearRight_50 : decode cX7_nearRight 50 = .ok (.iload 7, 2) := by decide +kernel
theorem dX7_nearRight_52 : decode cX7_nearRight 52 = .ok (.iaload, 1) := by decide +kernel
theorem dX7_nearRight_53 : decode cX7_nearRight 53 = .ok (.iload_n 3, 1) := by decide +kernel
theorem dX7_nearRight_54 : decode cX7_nearRight 54 = .ok (.iload 4, 2) := by decide +kernel
theorem dX7_nearRight_56 : decode cX7_nearRight 56 = .ok (.invokevirtual 180, 3) := by decide +kernel
theorem dX7_nearRight_59 : decode cX7_nearRight 59 = .ok (.ifCond .eq 41, 3) := by decide +kernel
theorem dX7_nearRight_62 : decode cX7_nearRight 62 = .ok (.aload_n 0, 1) := by decide +kernel
theorem dX7_nearRight_63 : decode cX7_nearRight 63 = .ok (.iload_n 1, 1) := by decide +kernel
theorem dX7_nearRight_64 : decode cX7_nearRight 64 = .ok (.aload_n 0, 1) := by decide +kernel
theorem dX7_nearRight_65 : decode cX7_nearRight 65 = .ok (.getfield 70, 3) := by decide +kernel
theorem dX7_nearRight_68 : decode cX7_nearRight 68 = .ok (.iload 7, 2) := by decide +kernel
theorem dX7_nearRight_70 : decode cX7_nearRight 70 = .ok (.iaload, 1) := by decide +kernel
theorem dX7_nearRight_71 : decode cX7_nearRight 71 = .ok (.iload_n 3, 1) := by decide +kernel
theorem dX7_nearRight_72 : decode cX7_nearRight 72 = .ok (.iload 4, 2) := by decide +kernel
theorem dX7_nearRight_74 : decode cX7_nearRight 74 = .ok (.invokevirtual 158, 3) := by decide +kernel
theorem dX7_nearRight_77 : decode cX7_nearRight 77 = .ok (.istore 8, 2) := by decide +kernel
theorem dX7_nearRight_79 : decode cX7_nearRight 79 = .ok (.iload 5, 2) := by decide +kernel
theorem dX7_nearRight_81 : decode cX7_nearRight 81 = .ok (.ifCond .lt 10, 3) := by decide +kernel
theorem dX7_nearRight_84 : decode cX7_nearRight 84 = .ok (.iload 8, 2) := by decide +kernel
theorem dX7_nearRight_86 : decode cX7_nearRight 86 = .ok (.iload 5, 2) := by decide +kernel
theorem dX7_nearRight_88 : decode cX7_nearRight 88 = .ok (.if_icmp .ge 8, 3) := by decide +kernel
theorem dX7_nearRight_91 : decode cX7_nearRight 91 = .ok (.iload 8, 2) := by decide +kernel
theorem dX7_nearRight_93 : decode cX7_nearRight 93 = .ok (.goto 5, 3) := by decide +kernel
theorem dX7_nearRight_96 : decode cX7_nearRight 96 = .ok (.iload 5, 2) := by decide +kernel
theorem dX7_nearRight_98 : decode cX7_nearRight 98 = .ok (.istore 5, 2) := by decide +kernel
theorem dX7_nearRight_100 : decode cX7_nearRight 100 = .ok (.iinc 7 1, 3) := by decide +kernel
theorem dX7_nearRight_103 : decode cX7_nearRight 103 = .ok (.goto (-84), 3) := by decide +kernel
theorem dX7_nearRight_106 : decode cX7_nearRight 106 = .ok (.iload 5, 2) := by decide +kernel
theorem dX7_nearRight_108 : decode cX7_nearRight 108 = .ok (.ireturn, 1) := by decide +kernel
theorem dX7_may_0 : decode cX7_may 0 = .ok (.iload_n 1, 1) := by decide +kernel
theorem dX7_may_1 : decode cX7_may 1 = .ok (.invokestatic 102, 3) := by decide +kernel
theorem dX7_may_4 : decode cX7_may 4 = .ok (.ifCond .eq 34, 3) := by decide +kernel
theorem dX7_may_7 : decode cX7_may 7 = .ok (.aload_n 0, 1) := by decide +kernel
theorem dX7_may_8 : decode cX7_may 8 = .ok (.iload_n 2, 1) := by decide +kernel
theorem dX7_may_9 : decode cX7_may 9 = .ok (.invokevirtual 108, 3) := by decide +kernel
theorem dX7_may_12 : decode cX7_may 12 = .ok (.ifCond .eq 26, 3) := by decide +kernel
theorem dX7_may_15 : decode cX7_may 15 = .ok (.iload_n 3, 1) := by decide +kernel
theorem dX7_may_16 : decode cX7_may 16 = .ok (.invokestatic 94, 3) := by decide +kernel
theorem dX7_may_19 : decode cX7_may 19 = .ok (.ifCond .eq 19, 3) := by decide +kernel
theorem dX7_may_22 : decode cX7_may 22 = .ok (.iload 4, 2) := by decide +kernel
theorem dX7_may_24 : decode cX7_may 24 = .ok (.invokestatic 194, 3) := by decide +kernel
theorem dX7_may_27 : decode cX7_may 27 = .ok (.ifCond .eq 11, 3) := by decide +kernel
theorem dX7_may_30 : decode cX7_may 30 = .ok (.iload 5, 2) := by decide +kernel
theorem dX7_may_32 : decode cX7_may 32 = .ok (.invokestatic 200, 3) := by decide +kernel
theorem dX7_may_35 : decode cX7_may 35 = .ok (.ifCond .ne 5, 3) := by decide +kernel
theorem dX7_may_38 : decode cX7_may 38 = .ok (.iconst (-1), 1) := by decide +kernel
theorem dX7_may_39 : decode cX7_may 39 = .ok (.ireturn, 1) := by decide +kernel
theorem dX7_may_40 : decode cX7_may 40 = .ok (.iconst (-1), 1) := by decide +kernel
theorem dX7_may_41 : decode cX7_may 41 = .ok (.istore 6, 2) := by decide +kernel
theorem dX7_may_43 : decode cX7_may 43 = .ok (.iconst 0, 1) := by decide +kernel
theorem dX7_may_44 : decode cX7_may 44 = .ok (.istore 7, 2) := by decide +kernel
theorem dX7_may_46 : decode cX7_may 46 = .ok (.iconst 0, 1) := by decide +kernel
theorem dX7_may_47 : decode cX7_may 47 = .ok (.istore 8, 2) := by decide +kernel
theorem dX7_may_49 : decode cX7_may 49 = .ok (.iconst 0, 1) := by decide +kernel
theorem dX7_may_50 : decode cX7_may 50 = .ok (.istore 9, 2) := by decide +kernel
theorem dX7_may_52 : decode cX7_may 52 = .ok (.iconst 0, 1) := by decide +kernel
theorem dX7_may_53 : decode cX7_may 53 = .ok (.istore 10, 2) := by decide +kernel
theorem dX7_may_55 : decode cX7_may 55 = .ok (.iconst 0, 1) := by decide +kernel
theorem dX7_may_56 : decode cX7_may 56 = .ok (.istore 11, 2) := by decide +kernel
theorem dX7_may_58 : decode cX7_may 58 = .ok (.iload 11, 2) := by decide +kernel
theorem dX7_may_60 : decode cX7_may 60 = .ok (.aload_n 0, 1) := by decide +kernel
theorem dX7_may_61 : decode cX7_may 61 = .ok (.getfield 83, 3) := by decide +kernel
theorem dX7_may_64 : decode cX7_may 64 = .ok (.if_icmp .ge 136, 3) := by decide +kernel
theorem dX7_may_67 : decode cX7_may 67 = .ok (.iload 11, 2) := by decide +kernel
theorem dX7_may_69 : decode cX7_may 69 = .ok (.iload_n 2, 1) := by decide +kernel
theorem dX7_may_70 : decode cX7_may 70 = .ok (.if_icmp .eq 13, 3) := by decide +kernel
theorem dX7_may_73 : decode cX7_may 73 = .ok (.aload_n 0, 1) := by decide +kernel
theorem dX7_may_74 : decode cX7_may 74 = .ok (.iload 11, 2) := by decide +kernel
theorem dX7_may_76 : decode cX7_may 76 = .ok (.iload_n 2, 1) := by decide +kernel
theorem dX7_may_77 : decode cX7_may 77 = .ok (.invokevirtual 173, 3) := by decide +kernel
theorem dX7_may_80 : decode cX7_may 80 = .ok (.ifCond .eq 17, 3) := by decide +kernel
theorem dX7_may_83 : decode cX7_may 83 = .ok (.aload_n 0, 1) := by decide +kernel
theorem dX7_may_84 : decode cX7_may 84 = .ok (.iload 11, 2) := by decide +kernel
theorem dX7_may_86 : decode cX7_may 86 = .ok (.iload_n 3, 1) := by decide +kernel
theorem dX7_may_87 : decode cX7_may 87 = .ok (.iload 4, 2) := by decide +kernel
theorem dX7_may_89 : decode cX7_may 89 = .ok (.iload 5, 2) := by decide +kernel
theorem dX7_may_91 : decode cX7_may 91 = .ok (.invokevirtual 215, 3) := by decide +kernel
theorem dX7_may_94 : decode cX7_may 94 = .ok (.goto 4, 3) := by decide +kernel
theorem dX7_may_97 : decode cX7_may 97 = .ok (.iconst (-1), 1) := by decide +kernel
theorem dX7_may_98 : decode cX7_may 98 = .ok (.istore 12, 2) := by decide +kernel
theorem dX7_may_100 : decode cX7_may 100 = .ok (.iload 12, 2) := by decide +kernel
theorem dX7_may_102 : decode cX7_may 102 = .ok (.ifCond .ge 6, 3) := by decide +kernel
theorem dX7_may_105 : decode cX7_may 105 = .ok (.goto 89, 3) := by decide +kernel
theorem dX7_may_108 : decode cX7_may 108 = .ok (.aload_n 0, 1) := by decide +kernel
theorem dX7_may_109 : decode cX7_may 109 = .ok (.getfield 34, 3) := by decide +kernel
theorem dX7_may_112 : decode cX7_may 112 = .ok (.iload 11, 2) := by decide +kernel
theorem dX7_may_114 : decode cX7_may 114 = .ok (.iaload, 1) := by decide +kernel
theorem dX7_may_115 : decode cX7_may 115 = .ok (.iload_n 1, 1) := by decide +kernel
theorem dX7_may_116 : decode cX7_may 116 = .ok (.if_icmp .ne 9, 3) := by decide +kernel
theorem dX7_may_119 : decode cX7_may 119 = .ok (.iconst 1, 1) := by decide +kernel
theorem dX7_may_120 : decode cX7_may 120 = .ok (.istore 8, 2) := by decide +kernel
theorem dX7_may_122 : decode cX7_may 122 = .ok (.goto 72, 3) := by decide +kernel
theorem dX7_may_125 : decode cX7_may 125 = .ok (.aload_n 0, 1) := by decide +kernel
theorem dX7_may_126 : decode cX7_may 126 = .ok (.iload 11, 2) := by decide +kernel
theorem dX7_may_128 : decode cX7_may 128 = .ok (.iload_n 1, 1) := by decide +kernel
theorem dX7_may_129 : decode cX7_may 129 = .ok (.iload 5, 2) := by decide +kernel
theorem dX7_may_131 : decode cX7_may 131 = .ok (.invokevirtual 170, 3) := by decide +kernel
theorem dX7_may_134 : decode cX7_may 134 = .ok (.ifCond .eq 9, 3) := by decide +kernel
theorem dX7_may_137 : decode cX7_may 137 = .ok (.iconst 1, 1) := by decide +kernel
theorem dX7_may_138 : decode cX7_may 138 = .ok (.istore 9, 2) := by decide +kernel
theorem dX7_may_140 : decode cX7_may 140 = .ok (.goto 54, 3) := by decide +kernel
theorem dX7_may_143 : decode cX7_may 143 = .ok (.aload_n 0, 1) := by decide +kernel
theorem dX7_may_144 : decode cX7_may 144 = .ok (.getfield 31, 3) := by decide +kernel
theorem dX7_may_147 : decode cX7_may 147 = .ok (.iload 11, 2) := by decide +kernel
theorem dX7_may_149 : decode cX7_may 149 = .ok (.iaload, 1) := by decide +kernel
theorem dX7_may_150 : decode cX7_may 150 = .ok (.iconst 3, 1) := by decide +kernel
theorem dX7_may_151 : decode cX7_may 151 = .ok (.if_icmp .ne 23, 3) := by decide +kernel
theorem dX7_may_154 : decode cX7_may 154 = .ok (.aload_n 0, 1) := by decide +kernel
theorem dX7_may_155 : decode cX7_may 155 = .ok (.bipush 8, 2) := by decide +kernel
theorem dX7_may_157 : decode cX7_may 157 = .ok (.iload 11, 2) := by decide +kernel
theorem dX7_may_159 : decode cX7_may 159 = .ok (.iload_n 1, 1) := by decide +kernel
theorem dX7_may_160 : decode cX7_may 160 = .ok (.iload 5, 2) := by decide +kernel
theorem dX7_may_162 : decode cX7_may 162 = .ok (.invokevirtual 138, 3) := by decide +kernel
theorem dX7_may_165 : decode cX7_may 165 = .ok (.ifCond .lt 9, 3) := by decide +kernel
theorem dX7_may_168 : decode cX7_may 168 = .ok (.iconst 1, 1) := by decide +kernel
theorem dX7_may_169 : decode cX7_may 169 = .ok (.istore 10, 2) := by decide +kernel
theorem dX7_may_171 : decode cX7_may 171 = .ok (.goto 23, 3) := by decide +kernel
theorem dX7_may_174 : decode cX7_may 174 = .ok (.iload 6, 2) := by decide +kernel
theorem dX7_may_176 : decode cX7_may 176 = .ok (.ifCond .lt 10, 3) := by decide +kernel
theorem dX7_may_179 : decode cX7_may 179 = .ok (.iload 12, 2) := by decide +kernel
theorem dX7_may_181 : decode cX7_may 181 = .ok (.iload 7, 2) := by decide +kernel
theorem dX7_may_183 : decode cX7_may 183 = .ok (.if_icmp .ge 11, 3) := by decide +kernel
theorem dX7_may_186 : decode cX7_may 186 = .ok (.iload 11, 2) := by decide +kernel
theorem dX7_may_188 : decode cX7_may 188 = .ok (.istore 6, 2) := by decide +kernel
theorem dX7_may_190 : decode cX7_may 190 = .ok (.iload 12, 2) := by decide +kernel
theorem dX7_may_192 : decode cX7_may 192 = .ok (.istore 7, 2) := by decide +kernel
theorem dX7_may_194 : decode cX7_may 194 = .ok (.iinc 11 1, 3) := by decide +kernel
theorem dX7_may_197 : decode cX7_may 197 = .ok (.goto (-139), 3) := by decide +kernel
theorem dX7_may_200 : decode cX7_may 200 = .ok (.iload 6, 2) := by decide +kernel
theorem dX7_may_202 : decode cX7_may 202 = .ok (.ifCond .lt 11, 3) := by decide +kernel
theorem dX7_may_205 : decode cX7_may 205 = .ok (.bipush 10, 2) := by decide +kernel
theorem dX7_may_207 : decode cX7_may 207 = .ok (.iload 6, 2) := by decide +kernel
theorem dX7_may_209 : decode cX7_may 209 = .ok (.iadd, 1) := by decide +kernel
theorem dX7_may_210 : decode cX7_may 210 = .ok (.goto 31, 3) := by decide +kernel
theorem dX7_may_213 : decode cX7_may 213 = .ok (.iload 8, 2) := by decide +kernel
theorem dX7_may_215 : decode cX7_may 215 = .ok (.ifCond .eq 7, 3) := by decide +kernel
theorem dX7_may_218 : decode cX7_may 218 = .ok (.iconst 1, 1) := by decide +kernel
theorem dX7_may_219 : decode cX7_may 219 = .ok (.goto 22, 3) := by decide +kernel
theorem dX7_may_222 : decode cX7_may 222 = .ok (.iload 9, 2) := by decide +kernel
theorem dX7_may_224 : decode cX7_may 224 = .ok (.ifCond .eq 7, 3) := by decide +kernel
theorem dX7_may_227 : decode cX7_may 227 = .ok (.iconst 2, 1) := by decide +kernel
theorem dX7_may_228 : decode cX7_may 228 = .ok (.goto 13, 3) := by decide +kernel
theorem dX7_may_231 : decode cX7_may 231 = .ok (.iload 10, 2) := by decide +kernel
theorem dX7_may_233 : decode cX7_may 233 = .ok (.ifCond .eq 7, 3) := by decide +kernel
theorem dX7_may_236 : decode cX7_may 236 = .ok (.iconst 3, 1) := by decide +kernel
theorem dX7_may_237 : decode cX7_may 237 = .ok (.goto 4, 3) := by decide +kernel
theorem dX7_may_240 : decode cX7_may 240 = .ok (.iconst 0, 1) := by decide +kernel
theorem dX7_may_241 : decode cX7_may 241 = .ok (.ireturn, 1) := by decide +kernel
theorem dX7_watch_0 : decode cX7_watch 0 = .ok (.aload_n 0, 1) := by decide +kernel
theorem dX7_watch_1 : decode cX7_watch 1 = .ok (.getfield 105, 3) := by decide +kernel
theorem dX7_watch_4 : decode cX7_watch 4 = .ok (.iconst 1, 1) := by decide +kernel
theorem dX7_watch_5 : decode cX7_watch 5 = .ok (.isub, 1) := by decide +kernel
theorem dX7_watch_6 : decode cX7_watch 6 = .ok (.istore_n 2, 1) := by decide +kernel
theorem dX7_watch_7 : decode cX7_watch 7 = .ok (.iload_n 2, 1) := by decide +kernel
theorem dX7_watch_8 : decode cX7_watch 8 = .ok (.ifCond .lt 19, 3) := by decide +kernel
theorem dX7_watch_11 : decode cX7_watch 11 = .ok (.aload_n 0, 1) := by decide +kernel
theorem dX7_watch_12 : decode cX7_watch 12 = .ok (.getfield 49, 3) := by decide +kernel
theorem dX7_watch_15 : decode cX7_watch 15 = .ok (.iload_n 2, 1) := by decide +kernel
theorem dX7_watch_16 : decode cX7_watch 16 = .ok (.iaload, 1) := by decide +kernel
theorem dX7_watch_17 : decode cX7_watch 17 = .ok (.iconst 1, 1) := by decide +kernel
theorem dX7_watch_18 : decode cX7_watch 18 = .ok (.if_icmp .eq 9, 3) := by decide +kernel
theorem dX7_watch_21 : decode cX7_watch 21 = .ok (.iinc 2 (-1), 3) := by decide +kernel
theorem dX7_watch_24 : decode cX7_watch 24 = .ok (.goto (-17), 3) := by decide +kernel
theorem dX7_watch_27 : decode cX7_watch 27 = .ok (.iload_n 2, 1) := by decide +kernel
theorem dX7_watch_28 : decode cX7_watch 28 = .ok (.ifCond .lt 7, 3) := by decide +kernel
theorem dX7_watch_31 : decode cX7_watch 31 = .ok (.iload_n 1, 1) := by decide +kernel
theorem dX7_watch_32 : decode cX7_watch 32 = .ok (.ifCond .ge 5, 3) := by decide +kernel
theorem dX7_watch_35 : decode cX7_watch 35 = .ok (.iconst (-1), 1) := by decide +kernel
theorem dX7_watch_36 : decode cX7_watch 36 = .ok (.ireturn, 1) := by decide +kernel
theorem dX7_watch_37 : decode cX7_watch 37 = .ok (.aload_n 0, 1) := by decide +kernel
theorem dX7_watch_38 : decode cX7_watch 38 = .ok (.getfield 52, 3) := by decide +kernel
theorem dX7_watch_41 : decode cX7_watch 41 = .ok (.iload_n 2, 1) := by decide +kernel
theorem dX7_watch_42 : decode cX7_watch 42 = .ok (.iaload, 1) := by decide +kernel
theorem dX7_watch_43 : decode cX7_watch 43 = .ok (.istore_n 3, 1) := by decide +kernel
theorem dX7_watch_44 : decode cX7_watch 44 = .ok (.iconst 0, 1) := by decide +kernel
theorem dX7_watch_45 : decode cX7_watch 45 = .ok (.istore 4, 2) := by decide +kernel
theorem dX7_watch_47 : decode cX7_watch 47 = .ok (.iconst 0, 1) := by decide +kernel
theorem dX7_watch_48 : decode cX7_watch 48 = .ok (.istore 5, 2) := by decide +kernel
theorem dX7_watch_50 : decode cX7_watch 50 = .ok (.iload 5, 2) := by decide +kernel
theorem dX7_watch_52 : decode cX7_watch 52 = .ok (.aload_n 0, 1) := by decide +kernel
theorem dX7_watch_53 : decode cX7_watch 53 = .ok (.getfield 83, 3) := by decide +kernel
theorem dX7_watch_56 : decode cX7_watch 56 = .ok (.if_icmp .ge 72, 3) := by decide +kernel
theorem dX7_watch_59 : decode cX7_watch 59 = .ok (.aload_n 0, 1) := by decide +kernel
theorem dX7_watch_60 : decode cX7_watch 60 = .ok (.getfield 34, 3) := by decide +kernel
theorem dX7_watch_63 : decode cX7_watch 63 = .ok (.iload 5, 2) := by decide +kernel
theorem dX7_watch_65 : decode cX7_watch 65 = .ok (.iaload, 1) := by decide +kernel
theorem dX7_watch_66 : decode cX7_watch 66 = .ok (.aload_n 0, 1) := by decide +kernel
theorem dX7_watch_67 : decode cX7_watch 67 = .ok (.getfield 34, 3) := by decide +kernel
theorem dX7_watch_70 : decode cX7_watch 70 = .ok (.iload_n 3, 1) := by decide +kernel
theorem dX7_watch_71 : decode cX7_watch 71 = .ok (.iaload, 1) := by decide +kernel
theorem dX7_watch_72 : decode cX7_watch 72 = .ok (.if_icmp .eq 50, 3) := by decide +kernel
theorem dX7_watch_75 : decode cX7_watch 75 = .ok (.aload_n 0, 1) := by decide +kernel
theorem dX7_watch_76 : decode cX7_watch 76 = .ok (.iload 5, 2) := by decide +kernel
theorem dX7_watch_78 : decode cX7_watch 78 = .ok (.iload_n 3, 1) := by decide +kernel
theorem dX7_watch_79 : decode cX7_watch 79 = .ok (.invokevirtual 173, 3) := by decide +kernel
theorem dX7_watch_82 : decode cX7_watch 82 = .ok (.ifCond .eq 40, 3) := by decide +kernel
theorem dX7_watch_85 : decode cX7_watch 85 = .ok (.aload_n 0, 1) := by decide +kernel
theorem dX7_watch_86 : decode cX7_watch 86 = .ok (.iload 5, 2) := by decide +kernel
theorem dX7_watch_88 : decode cX7_watch 88 = .ok (.iload_n 3, 1) := by decide +kernel
theorem dX7_watch_89 : decode cX7_watch 89 = .ok (.aload_n 0, 1) := by decide +kernel
theorem dX7_watch_90 : decode cX7_watch 90 = .ok (.getfield 55, 3) := by decide +kernel
theorem dX7_watch_93 : decode cX7_watch 93 = .ok (.iload_n 2, 1) := by decide +kernel
theorem dX7_watch_94 : decode cX7_watch 94 = .ok (.iaload, 1) := by decide +kernel
theorem dX7_watch_95 : decode cX7_watch 95 = .ok (.aload_n 0, 1) := by decide +kernel
theorem dX7_watch_96 : decode cX7_watch 96 = .ok (.getfield 58, 3) := by decide +kernel
theorem dX7_watch_99 : decode cX7_watch 99 = .ok (.iload_n 2, 1) := by decide +kernel
theorem dX7_watch_100 : decode cX7_watch 100 = .ok (.iaload, 1) := by decide +kernel
theorem dX7_watch_101 : decode cX7_watch 101 = .ok (.invokevirtual 218, 3) := by decide +kernel
theorem dX7_watch_104 : decode cX7_watch 104 = .ok (.ifCond .ne 6, 3) := by decide +kernel
theorem dX7_watch_107 : decode cX7_watch 107 = .ok (.goto 15, 3) := by decide +kernel
theorem dX7_watch_110 : decode cX7_watch 110 = .ok (.iload 4, 2) := by decide +kernel
theorem dX7_watch_112 : decode cX7_watch 112 = .ok (.iload_n 1, 1) := by decide +kernel
theorem dX7_watch_113 : decode cX7_watch 113 = .ok (.if_icmp .ne 6, 3) := by decide +kernel
theorem dX7_watch_116 : decode cX7_watch 116 = .ok (.iload 5, 2) := by decide +kernel
theorem dX7_watch_118 : decode cX7_watch 118 = .ok (.ireturn, 1) := by decide +kernel
theorem dX7_watch_119 : decode cX7_watch 119 = .ok (.iinc 4 1, 3) := by decide +kernel
theorem dX7_watch_122 : decode cX7_watch 122 = .ok (.iinc 5 1, 3) := by decide +kernel
theorem dX7_watch_125 : decode cX7_watch 125 = .ok (.goto (-75), 3) := by decide +kernel
theorem dX7_watch_128 : decode cX7_watch 128 = .ok (.iconst (-1), 1) := by decide +kernel
theorem dX7_watch_129 : decode cX7_watch 129 = .ok (.ireturn, 1) := by decide +kernel
theorem dX7_comesNear_0 : decode cX7_comesNear 0 = .ok (.aload_n 0, 1) := by decide +kernel
theorem dX7_comesNear_1 : decode cX7_comesNear 1 = .ok (.iload_n 2, 1) := by decide +kernel
theorem dX7_comesNear_2 : decode cX7_comesNear 2 = .ok (.iload 4, 2) := by decide +kernel
theorem dX7_comesNear_4 : decode cX7_comesNear 4 = .ok (.aload_n 0, 1) := by decide +kernel
theorem dX7_comesNear_5 : decode cX7_comesNear 5 = .ok (.getfield 73, 3) := by decide +kernel
theorem dX7_comesNear_8 : decode cX7_comesNear 8 = .ok (.invokevirtual 186, 3) := by decide +kernel
theorem dX7_comesNear_11 : decode cX7_comesNear 11 = .ok (.istore 5, 2) := by decide +kernel
theorem dX7_comesNear_13 : decode cX7_comesNear 13 = .ok (.iconst 0, 1) := by decide +kernel
theorem dX7_comesNear_14 : decode cX7_comesNear 14 = .ok (.istore 6, 2) := by decide +kernel
theorem dX7_comesNear_16 : decode cX7_comesNear 16 = .ok (.iconst 0, 1) := by decide +kernel
theorem dX7_comesNear_17 : decode cX7_comesNear 17 = .ok (.istore 7, 2) := by decide +kernel
theorem dX7_comesNear_19 : decode cX7_comesNear 19 = .ok (.iload 7, 2) := by decide +kernel
theorem dX7_comesNear_21 : decode cX7_comesNear 21 = .ok (.iload 5, 2) := by decide +kernel
theorem dX7_comesNear_23 : decode cX7_comesNear 23 = .ok (.if_icmp .ge 39, 3) := by decide +kernel
theorem dX7_comesNear_26 : decode cX7_comesNear 26 = .ok (.iload 6, 2) := by decide +kernel
theorem dX7_comesNear_28 : decode cX7_comesNear 28 = .ok (.ifCond .ne 34, 3) := by decide +kernel
theorem dX7_comesNear_31 : decode cX7_comesNear 31 = .ok (.aload_n 0, 1) := by decide +kernel
theorem dX7_comesNear_32 : decode cX7_comesNear 32 = .ok (.iload_n 1, 1) := by decide +kernel
theorem dX7_comesNear_33 : decode cX7_comesNear 33 = .ok (.aload_n 0, 1) := by decide +kernel
theorem dX7_comesNear_34 : decode cX7_comesNear 34 = .ok (.getfield 73, 3) := by decide +kernel
theorem dX7_comesNear_37 : decode cX7_comesNear 37 = .ok (.iload 7, 2) := by decide +kernel
theorem dX7_comesNear_39 : decode cX7_comesNear 39 = .ok (.iaload, 1) := by decide +kernel
theorem dX7_comesNear_40 : decode cX7_comesNear 40 = .ok (.iload_n 3, 1) := by decide +kernel
theorem dX7_comesNear_41 : decode cX7_comesNear 41 = .ok (.iload 4, 2) := by decide +kernel
theorem dX7_comesNear_43 : decode cX7_comesNear 43 = .ok (.invokevirtual 215, 3) := by decide +kernel
theorem dX7_comesNear_46 : decode cX7_comesNear 46 = .ok (.ifCond .lt 7, 3) := by decide +kernel
theorem dX7_comesNear_49 : decode cX7_comesNear 49 = .ok (.iconst 1, 1) := by decide +kernel
theorem dX7_comesNear_50 : decode cX7_comesNear 50 = .ok (.goto 4, 3) := by decide +kernel
theorem dX7_comesNear_53 : decode cX7_comesNear 53 = .ok (.iconst 0, 1) := by decide +kernel
theorem dX7_comesNear_54 : decode cX7_comesNear 54 = .ok (.istore 6, 2) := by decide +kernel
theorem dX7_comesNear_56 : decode cX7_comesNear 56 = .ok (.iinc 7 1, 3) := by decide +kernel
theorem dX7_comesNear_59 : decode cX7_comesNear 59 = .ok (.goto (-40), 3) := by decide +kernel
theorem dX7_comesNear_62 : decode cX7_comesNear 62 = .ok (.iload 6, 2) := by decide +kernel
theorem dX7_comesNear_64 : decode cX7_comesNear 64 = .ok (.ireturn, 1) := by decide +kernel
theorem dX7_about_0 : decode cX7_about 0 = .ok (.iload_n 1, 1) := by decide +kernel
theorem dX7_about_1 : decode cX7_about 1 = .ok (.tableswitch 87 0 5 #[39, 44, 49, 72, 77, 82], 39) := by decide +kernel
theorem dX7_about_40 : decode cX7_about 40 = .ok (.aload_n 0, 1) := by decide +kernel
theorem dX7_about_41 : decode cX7_about 41 = .ok (.getfield 83, 3) := by decide +kernel
theorem dX7_about_44 : decode cX7_about 44 = .ok (.ireturn, 1) := by decide +kernel
theorem dX7_about_45 : decode cX7_about 45 = .ok (.aload_n 0, 1) := by decide +kernel
theorem dX7_about_46 : decode cX7_about 46 = .ok (.getfield 105, 3) := by decide +kernel
theorem dX7_about_49 : decode cX7_about 49 = .ok (.ireturn, 1) := by decide +kernel
theorem dX7_about_50 : decode cX7_about 50 = .ok (.aload_n 0, 1) := by decide +kernel
theorem dX7_about_51 : decode cX7_about 51 = .ok (.getfield 105, 3) := by decide +kernel
theorem dX7_about_54 : decode cX7_about 54 = .ok (.ifCond .ne 7, 3) := by decide +kernel
theorem dX7_about_57 : decode cX7_about 57 = .ok (.iconst 0, 1) := by decide +kernel
theorem dX7_about_58 : decode cX7_about 58 = .ok (.goto 14, 3) := by decide +kernel
theorem dX7_about_61 : decode cX7_about 61 = .ok (.aload_n 0, 1) := by decide +kernel
theorem dX7_about_62 : decode cX7_about 62 = .ok (.getfield 58, 3) := by decide +kernel
theorem dX7_about_65 : decode cX7_about 65 = .ok (.aload_n 0, 1) := by decide +kernel
theorem dX7_about_66 : decode cX7_about 66 = .ok (.getfield 105, 3) := by decide +kernel
theorem dX7_about_69 : decode cX7_about 69 = .ok (.iconst 1, 1) := by decide +kernel
theorem dX7_about_70 : decode cX7_about 70 = .ok (.isub, 1) := by decide +kernel
theorem dX7_about_71 : decode cX7_about 71 = .ok (.iaload, 1) := by decide +kernel
theorem dX7_about_72 : decode cX7_about 72 = .ok (.ireturn, 1) := by decide +kernel
theorem dX7_about_73 : decode cX7_about 73 = .ok (.aload_n 0, 1) := by decide +kernel
theorem dX7_about_74 : decode cX7_about 74 = .ok (.getfield 91, 3) := by decide +kernel
theorem dX7_about_77 : decode cX7_about 77 = .ok (.ireturn, 1) := by decide +kernel
theorem dX7_about_78 : decode cX7_about 78 = .ok (.aload_n 0, 1) := by decide +kernel
theorem dX7_about_79 : decode cX7_about 79 = .ok (.getfield 76, 3) := by decide +kernel
theorem dX7_about_82 : decode cX7_about 82 = .ok (.ireturn, 1) := by decide +kernel
theorem dX7_about_83 : decode cX7_about 83 = .ok (.aload_n 0, 1) := by decide +kernel
theorem dX7_about_84 : decode cX7_about 84 = .ok (.getfield 80, 3) := by decide +kernel
theorem dX7_about_87 : decode cX7_about 87 = .ok (.ireturn, 1) := by decide +kernel
theorem dX7_about_88 : decode cX7_about 88 = .ok (.iconst (-1), 1) := by decide +kernel
theorem dX7_about_89 : decode cX7_about 89 = .ok (.ireturn, 1) := by decide +kernel
