theorem dX6_init_40 : decode cX6_init 40 = .ok (.invokespecial 31, 3) := by decide +kernel
theorem dX6_init_43 : decode cX6_init 43 = .ok (.putfield 32, 3) := by decide +kernel
theorem dX6_init_46 : decode cX6_init 46 = .ok (.aload_n 0, 1) := by decide +kernel
theorem dX6_init_47 : decode cX6_init 47 = .ok (.iconst 0, 1) := by decide +kernel
theorem dX6_init_48 : decode cX6_init 48 = .ok (.putfield 36, 3) := by decide +kernel
theorem dX6_init_51 : decode cX6_init 51 = .ok (.aload_n 0, 1) := by decide +kernel
theorem dX6_init_52 : decode cX6_init 52 = .ok (.sipush 700, 3) := by decide +kernel
theorem dX6_init_55 : decode cX6_init 55 = .ok (.putfield 40, 3) := by decide +kernel
theorem dX6_init_58 : decode cX6_init 58 = .ok (.aload_n 0, 1) := by decide +kernel
theorem dX6_init_59 : decode cX6_init 59 = .ok (.sipush 500, 3) := by decide +kernel
theorem dX6_init_62 : decode cX6_init 62 = .ok (.putfield 43, 3) := by decide +kernel
theorem dX6_init_65 : decode cX6_init 65 = .ok (.aload_n 0, 1) := by decide +kernel
theorem dX6_init_66 : decode cX6_init 66 = .ok (.new 46, 3) := by decide +kernel
theorem dX6_init_69 : decode cX6_init 69 = .ok (.dup, 1) := by decide +kernel
theorem dX6_init_70 : decode cX6_init 70 = .ok (.invokespecial 48, 3) := by decide +kernel
theorem dX6_init_73 : decode cX6_init 73 = .ok (.putfield 49, 3) := by decide +kernel
theorem dX6_init_76 : decode cX6_init 76 = .ok (.aload_n 0, 1) := by decide +kernel
theorem dX6_init_77 : decode cX6_init 77 = .ok (.new 46, 3) := by decide +kernel
theorem dX6_init_80 : decode cX6_init 80 = .ok (.dup, 1) := by decide +kernel
theorem dX6_init_81 : decode cX6_init 81 = .ok (.invokespecial 48, 3) := by decide +kernel
theorem dX6_init_84 : decode cX6_init 84 = .ok (.putfield 53, 3) := by decide +kernel
theorem dX6_init_87 : decode cX6_init 87 = .ok (.aload_n 0, 1) := by decide +kernel
theorem dX6_init_88 : decode cX6_init 88 = .ok (.new 46, 3) := by decide +kernel
theorem dX6_init_91 : decode cX6_init 91 = .ok (.dup, 1) := by decide +kernel
theorem dX6_init_92 : decode cX6_init 92 = .ok (.invokespecial 48, 3) := by decide +kernel
theorem dX6_init_95 : decode cX6_init 95 = .ok (.putfield 56, 3) := by decide +kernel
theorem dX6_init_98 : decode cX6_init 98 = .ok (.aload_n 0, 1) := by decide +kernel
theorem dX6_init_99 : decode cX6_init 99 = .ok (.new 59, 3) := by decide +kernel
theorem dX6_init_102 : decode cX6_init 102 = .ok (.dup, 1) := by decide +kernel
theorem dX6_init_103 : decode cX6_init 103 = .ok (.invokespecial 61, 3) := by decide +kernel
theorem dX6_init_106 : decode cX6_init 106 = .ok (.putfield 62, 3) := by decide +kernel
theorem dX6_init_109 : decode cX6_init 109 = .ok (.return_, 1) := by decide +kernel
theorem dX6_row_0 : decode cX6_row 0 = .ok (.iload_n 1, 1) := by decide +kernel
theorem dX6_row_1 : decode cX6_row 1 = .ok (.bipush 26, 2) := by decide +kernel
theorem dX6_row_3 : decode cX6_row 3 = .ok (.invokestatic 66, 3) := by decide +kernel
theorem dX6_row_6 : decode cX6_row 6 = .ok (.ifCond .eq 14, 3) := by decide +kernel
theorem dX6_row_9 : decode cX6_row 9 = .ok (.iload_n 2, 1) := by decide +kernel
theorem dX6_row_10 : decode cX6_row 10 = .ok (.iconst (-1), 1) := by decide +kernel
theorem dX6_row_11 : decode cX6_row 11 = .ok (.if_icmp .lt 9, 3) := by decide +kernel
theorem dX6_row_14 : decode cX6_row 14 = .ok (.iload_n 2, 1) := by decide +kernel
theorem dX6_row_15 : decode cX6_row 15 = .ok (.bipush 27, 2) := by decide +kernel
theorem dX6_row_17 : decode cX6_row 17 = .ok (.if_icmp .le 5, 3) := by decide +kernel
theorem dX6_row_20 : decode cX6_row 20 = .ok (.iconst 0, 1) := by decide +kernel
theorem dX6_row_21 : decode cX6_row 21 = .ok (.ireturn, 1) := by decide +kernel
theorem dX6_row_22 : decode cX6_row 22 = .ok (.aload_n 0, 1) := by decide +kernel
theorem dX6_row_23 : decode cX6_row 23 = .ok (.getfield 10, 3) := by decide +kernel
theorem dX6_row_26 : decode cX6_row 26 = .ok (.iload_n 1, 1) := by decide +kernel
theorem dX6_row_27 : decode cX6_row 27 = .ok (.iload_n 2, 1) := by decide +kernel
theorem dX6_row_28 : decode cX6_row 28 = .ok (.invokevirtual 70, 3) := by decide +kernel
theorem dX6_row_31 : decode cX6_row 31 = .ok (.iconst 1, 1) := by decide +kernel
theorem dX6_row_32 : decode cX6_row 32 = .ok (.ireturn, 1) := by decide +kernel
theorem dX6_sound_0 : decode cX6_sound 0 = .ok (.iload_n 1, 1) := by decide +kernel
theorem dX6_sound_1 : decode cX6_sound 1 = .ok (.bipush 26, 2) := by decide +kernel
theorem dX6_sound_3 : decode cX6_sound 3 = .ok (.invokestatic 66, 3) := by decide +kernel
theorem dX6_sound_6 : decode cX6_sound 6 = .ok (.ifCond .eq 27, 3) := by decide +kernel
theorem dX6_sound_9 : decode cX6_sound 9 = .ok (.iload_n 2, 1) := by decide +kernel
theorem dX6_sound_10 : decode cX6_sound 10 = .ok (.aload_n 0, 1) := by decide +kernel
theorem dX6_sound_11 : decode cX6_sound 11 = .ok (.getfield 10, 3) := by decide +kernel
theorem dX6_sound_14 : decode cX6_sound 14 = .ok (.iload_n 1, 1) := by decide +kernel
theorem dX6_sound_15 : decode cX6_sound 15 = .ok (.invokevirtual 74, 3) := by decide +kernel
theorem dX6_sound_18 : decode cX6_sound 18 = .ok (.invokestatic 66, 3) := by decide +kernel
theorem dX6_sound_21 : decode cX6_sound 21 = .ok (.ifCond .eq 12, 3) := by decide +kernel
theorem dX6_sound_24 : decode cX6_sound 24 = .ok (.iload_n 3, 1) := by decide +kernel
theorem dX6_sound_25 : decode cX6_sound 25 = .ok (.bipush 40, 2) := by decide +kernel
theorem dX6_sound_27 : decode cX6_sound 27 = .ok (.invokestatic 66, 3) := by decide +kernel
theorem dX6_sound_30 : decode cX6_sound 30 = .ok (.ifCond .ne 5, 3) := by decide +kernel
theorem dX6_sound_33 : decode cX6_sound 33 = .ok (.iconst 0, 1) := by decide +kernel
theorem dX6_sound_34 : decode cX6_sound 34 = .ok (.ireturn, 1) := by decide +kernel
theorem dX6_sound_35 : decode cX6_sound 35 = .ok (.aload_n 0, 1) := by decide +kernel
theorem dX6_sound_36 : decode cX6_sound 36 = .ok (.getfield 10, 3) := by decide +kernel
theorem dX6_sound_39 : decode cX6_sound 39 = .ok (.iload_n 1, 1) := by decide +kernel
theorem dX6_sound_40 : decode cX6_sound 40 = .ok (.iload_n 2, 1) := by decide +kernel
theorem dX6_sound_41 : decode cX6_sound 41 = .ok (.iload_n 3, 1) := by decide +kernel
theorem dX6_sound_42 : decode cX6_sound 42 = .ok (.invokevirtual 78, 3) := by decide +kernel
theorem dX6_sound_45 : decode cX6_sound 45 = .ok (.iconst 1, 1) := by decide +kernel
theorem dX6_sound_46 : decode cX6_sound 46 = .ok (.ireturn, 1) := by decide +kernel
theorem dX6_cost_0 : decode cX6_cost 0 = .ok (.iload_n 1, 1) := by decide +kernel
theorem dX6_cost_1 : decode cX6_cost 1 = .ok (.bipush 66, 2) := by decide +kernel
theorem dX6_cost_3 : decode cX6_cost 3 = .ok (.invokestatic 66, 3) := by decide +kernel
theorem dX6_cost_6 : decode cX6_cost 6 = .ok (.ifCond .eq 19, 3) := by decide +kernel
theorem dX6_cost_9 : decode cX6_cost 9 = .ok (.iload_n 1, 1) := by decide +kernel
theorem dX6_cost_10 : decode cX6_cost 10 = .ok (.iload_n 2, 1) := by decide +kernel
theorem dX6_cost_11 : decode cX6_cost 11 = .ok (.if_icmp .eq 14, 3) := by decide +kernel
theorem dX6_cost_14 : decode cX6_cost 14 = .ok (.iload_n 3, 1) := by decide +kernel
theorem dX6_cost_15 : decode cX6_cost 15 = .ok (.iconst 1, 1) := by decide +kernel
theorem dX6_cost_16 : decode cX6_cost 16 = .ok (.if_icmp .lt 9, 3) := by decide +kernel
theorem dX6_cost_19 : decode cX6_cost 19 = .ok (.iload_n 3, 1) := by decide +kernel
theorem dX6_cost_20 : decode cX6_cost 20 = .ok (.bipush 100, 2) := by decide +kernel
theorem dX6_cost_22 : decode cX6_cost 22 = .ok (.if_icmp .le 5, 3) := by decide +kernel
theorem dX6_cost_25 : decode cX6_cost 25 = .ok (.iconst 0, 1) := by decide +kernel
theorem dX6_cost_26 : decode cX6_cost 26 = .ok (.ireturn, 1) := by decide +kernel
theorem dX6_cost_27 : decode cX6_cost 27 = .ok (.iload_n 2, 1) := by decide +kernel
theorem dX6_cost_28 : decode cX6_cost 28 = .ok (.iconst (-1), 1) := by decide +kernel
theorem dX6_cost_29 : decode cX6_cost 29 = .ok (.if_icmp .ne 14, 3) := by decide +kernel
theorem dX6_cost_32 : decode cX6_cost 32 = .ok (.aload_n 0, 1) := by decide +kernel
theorem dX6_cost_33 : decode cX6_cost 33 = .ok (.getfield 10, 3) := by decide +kernel
theorem dX6_cost_36 : decode cX6_cost 36 = .ok (.iload_n 1, 1) := by decide +kernel
theorem dX6_cost_37 : decode cX6_cost 37 = .ok (.iload_n 3, 1) := by decide +kernel
theorem dX6_cost_38 : decode cX6_cost 38 = .ok (.invokevirtual 82, 3) := by decide +kernel
theorem dX6_cost_41 : decode cX6_cost 41 = .ok (.iconst 1, 1) := by decide +kernel
theorem dX6_cost_42 : decode cX6_cost 42 = .ok (.ireturn, 1) := by decide +kernel
theorem dX6_cost_43 : decode cX6_cost 43 = .ok (.iload_n 2, 1) := by decide +kernel
theorem dX6_cost_44 : decode cX6_cost 44 = .ok (.bipush 66, 2) := by decide +kernel
theorem dX6_cost_46 : decode cX6_cost 46 = .ok (.invokestatic 66, 3) := by decide +kernel
theorem dX6_cost_49 : decode cX6_cost 49 = .ok (.ifCond .ne 5, 3) := by decide +kernel
theorem dX6_cost_52 : decode cX6_cost 52 = .ok (.iconst 0, 1) := by decide +kernel
theorem dX6_cost_53 : decode cX6_cost 53 = .ok (.ireturn, 1) := by decide +kernel
theorem dX6_cost_54 : decode cX6_cost 54 = .ok (.aload_n 0, 1) := by decide +kernel
theorem dX6_cost_55 : decode cX6_cost 55 = .ok (.getfield 10, 3) := by decide +kernel
theorem dX6_cost_58 : decode cX6_cost 58 = .ok (.iload_n 1, 1) := by decide +kernel
theorem dX6_cost_59 : decode cX6_cost 59 = .ok (.iload_n 2, 1) := by decide +kernel
theorem dX6_cost_60 : decode cX6_cost 60 = .ok (.iload_n 3, 1) := by decide +kernel
theorem dX6_cost_61 : decode cX6_cost 61 = .ok (.invokevirtual 85, 3) := by decide +kernel
theorem dX6_cost_64 : decode cX6_cost 64 = .ok (.iconst 1, 1) := by decide +kernel
theorem dX6_cost_65 : decode cX6_cost 65 = .ok (.ireturn, 1) := by decide +kernel
theorem dX6_near_0 : decode cX6_near 0 = .ok (.iload_n 1, 1) := by decide +kernel
theorem dX6_near_1 : decode cX6_near 1 = .ok (.sipush 360, 3) := by decide +kernel
theorem dX6_near_4 : decode cX6_near 4 = .ok (.invokestatic 66, 3) := by decide +kernel
theorem dX6_near_7 : decode cX6_near 7 = .ok (.ifCond .eq 28, 3) := by decide +kernel
theorem dX6_near_10 : decode cX6_near 10 = .ok (.iload_n 2, 1) := by decide +kernel
theorem dX6_near_11 : decode cX6_near 11 = .ok (.sipush 360, 3) := by decide +kernel
theorem dX6_near_14 : decode cX6_near 14 = .ok (.invokestatic 66, 3) := by decide +kernel
theorem dX6_near_17 : decode cX6_near 17 = .ok (.ifCond .eq 18, 3) := by decide +kernel
theorem dX6_near_20 : decode cX6_near 20 = .ok (.iload_n 1, 1) := by decide +kernel
theorem dX6_near_21 : decode cX6_near 21 = .ok (.iload_n 2, 1) := by decide +kernel
theorem dX6_near_22 : decode cX6_near 22 = .ok (.if_icmp .eq 13, 3) := by decide +kernel
theorem dX6_near_25 : decode cX6_near 25 = .ok (.iload_n 3, 1) := by decide +kernel
theorem dX6_near_26 : decode cX6_near 26 = .ok (.sipush 1000, 3) := by decide +kernel
theorem dX6_near_29 : decode cX6_near 29 = .ok (.invokestatic 66, 3) := by decide +kernel
theorem dX6_near_32 : decode cX6_near 32 = .ok (.ifCond .ne 5, 3) := by decide +kernel
theorem dX6_near_35 : decode cX6_near 35 = .ok (.iconst 0, 1) := by decide +kernel
theorem dX6_near_36 : decode cX6_near 36 = .ok (.ireturn, 1) := by decide +kernel
theorem dX6_near_37 : decode cX6_near 37 = .ok (.aload_n 0, 1) := by decide +kernel
theorem dX6_near_38 : decode cX6_near 38 = .ok (.getfield 19, 3) := by decide +kernel
theorem dX6_near_41 : decode cX6_near 41 = .ok (.iload_n 1, 1) := by decide +kernel
theorem dX6_near_42 : decode cX6_near 42 = .ok (.iload_n 2, 1) := by decide +kernel
theorem dX6_near_43 : decode cX6_near 43 = .ok (.iload_n 3, 1) := by decide +kernel
theorem dX6_near_44 : decode cX6_near 44 = .ok (.invokevirtual 88, 3) := by decide +kernel
theorem dX6_near_47 : decode cX6_near 47 = .ok (.ireturn, 1) := by decide +kernel
theorem dX6_levels_0 : decode cX6_levels 0 = .ok (.iload_n 1, 1) := by decide +kernel
theorem dX6_levels_1 : decode cX6_levels 1 = .ok (.iconst 1, 1) := by decide +kernel
theorem dX6_levels_2 : decode cX6_levels 2 = .ok (.if_icmp .lt 22, 3) := by decide +kernel
theorem dX6_levels_5 : decode cX6_levels 5 = .ok (.iload_n 1, 1) := by decide +kernel
theorem dX6_levels_6 : decode cX6_levels 6 = .ok (.sipush 1000, 3) := by decide +kernel
theorem dX6_levels_9 : decode cX6_levels 9 = .ok (.if_icmp .gt 15, 3) := by decide +kernel
theorem dX6_levels_12 : decode cX6_levels 12 = .ok (.iload_n 2, 1) := by decide +kernel
theorem dX6_levels_13 : decode cX6_levels 13 = .ok (.iconst 1, 1) := by decide +kernel
theorem dX6_levels_14 : decode cX6_levels 14 = .ok (.if_icmp .lt 10, 3) := by decide +kernel
theorem dX6_levels_17 : decode cX6_levels 17 = .ok (.iload_n 2, 1) := by decide +kernel
theorem dX6_levels_18 : decode cX6_levels 18 = .ok (.sipush 1000, 3) := by decide +kernel
theorem dX6_levels_21 : decode cX6_levels 21 = .ok (.if_icmp .le 5, 3) := by decide +kernel
theorem dX6_levels_24 : decode cX6_levels 24 = .ok (.iconst 0, 1) := by decide +kernel
theorem dX6_levels_25 : decode cX6_levels 25 = .ok (.ireturn, 1) := by decide +kernel
theorem dX6_levels_26 : decode cX6_levels 26 = .ok (.aload_n 0, 1) := by decide +kernel
theorem dX6_levels_27 : decode cX6_levels 27 = .ok (.iload_n 1, 1) := by decide +kernel
theorem dX6_levels_28 : decode cX6_levels 28 = .ok (.putfield 40, 3) := by decide +kernel
theorem dX6_levels_31 : decode cX6_levels 31 = .ok (.aload_n 0, 1) := by decide +kernel
theorem dX6_levels_32 : decode cX6_levels 32 = .ok (.iload_n 2, 1) := by decide +kernel
theorem dX6_levels_33 : decode cX6_levels 33 = .ok (.putfield 43, 3) := by decide +kernel
theorem dX6_levels_36 : decode cX6_levels 36 = .ok (.iconst 1, 1) := by decide +kernel
theorem dX6_levels_37 : decode cX6_levels 37 = .ok (.ireturn, 1) := by decide +kernel
theorem dX6_mark_0 : decode cX6_mark 0 = .ok (.iload_n 1, 1) := by decide +kernel
theorem dX6_mark_1 : decode cX6_mark 1 = .ok (.iconst 5, 1) := by decide +kernel
theorem dX6_mark_2 : decode cX6_mark 2 = .ok (.invokestatic 66, 3) := by decide +kernel
theorem dX6_mark_5 : decode cX6_mark 5 = .ok (.ifCond .eq 21, 3) := by decide +kernel
theorem dX6_mark_8 : decode cX6_mark 8 = .ok (.iload_n 2, 1) := by decide +kernel
theorem dX6_mark_9 : decode cX6_mark 9 = .ok (.bipush 100, 2) := by decide +kernel
theorem dX6_mark_11 : decode cX6_mark 11 = .ok (.invokestatic 66, 3) := by decide +kernel
theorem dX6_mark_14 : decode cX6_mark 14 = .ok (.ifCond .eq 12, 3) := by decide +kernel
theorem dX6_mark_17 : decode cX6_mark 17 = .ok (.aload_n 0, 1) := by decide +kernel
theorem dX6_mark_18 : decode cX6_mark 18 = .ok (.getfield 36, 3) := by decide +kernel
theorem dX6_mark_21 : decode cX6_mark 21 = .ok (.bipush 120, 2) := by decide +kernel
theorem dX6_mark_23 : decode cX6_mark 23 = .ok (.if_icmp .lt 5, 3) := by decide +kernel
theorem dX6_mark_26 : decode cX6_mark 26 = .ok (.iconst (-1), 1) := by decide +kernel
theorem dX6_mark_27 : decode cX6_mark 27 = .ok (.ireturn, 1) := by decide +kernel
theorem dX6_mark_28 : decode cX6_mark 28 = .ok (.aload_n 0, 1) := by decide +kernel
theorem dX6_mark_29 : decode cX6_mark 29 = .ok (.getfield 25, 3) := by decide +kernel
theorem dX6_mark_32 : decode cX6_mark 32 = .ok (.aload_n 0, 1) := by decide +kernel
theorem dX6_mark_33 : decode cX6_mark 33 = .ok (.getfield 36, 3) := by decide +kernel
theorem dX6_mark_36 : decode cX6_mark 36 = .ok (.new 23, 3) := by decide +kernel
theorem dX6_mark_39 : decode cX6_mark 39 = .ok (.dup, 1) := by decide +kernel
theorem dX6_mark_40 : decode cX6_mark 40 = .ok (.iload_n 1, 1) := by decide +kernel
theorem dX6_mark_41 : decode cX6_mark 41 = .ok (.iload_n 2, 1) := by decide +kernel
theorem dX6_mark_42 : decode cX6_mark 42 = .ok (.invokespecial 92, 3) := by decide +kernel
theorem dX6_mark_45 : decode cX6_mark 45 = .ok (.aastore, 1) := by decide +kernel
theorem dX6_mark_46 : decode cX6_mark 46 = .ok (.aload_n 0, 1) := by decide +kernel
theorem dX6_mark_47 : decode cX6_mark 47 = .ok (.dup, 1) := by decide +kernel
theorem dX6_mark_48 : decode cX6_mark 48 = .ok (.getfield 36, 3) := by decide +kernel
theorem dX6_mark_51 : decode cX6_mark 51 = .ok (.iconst 1, 1) := by decide +kernel
theorem dX6_mark_52 : decode cX6_mark 52 = .ok (.iadd, 1) := by decide +kernel
theorem dX6_mark_53 : decode cX6_mark 53 = .ok (.putfield 36, 3) := by decide +kernel
theorem dX6_mark_56 : decode cX6_mark 56 = .ok (.aload_n 0, 1) := by decide +kernel
theorem dX6_mark_57 : decode cX6_mark 57 = .ok (.getfield 36, 3) := by decide +kernel
theorem dX6_mark_60 : decode cX6_mark 60 = .ok (.iconst 1, 1) := by decide +kernel
theorem dX6_mark_61 : decode cX6_mark 61 = .ok (.isub, 1) := by decide +kernel
theorem dX6_mark_62 : decode cX6_mark 62 = .ok (.ireturn, 1) := by decide +kernel
theorem dX6_letter_0 : decode cX6_letter 0 = .ok (.aload_n 0, 1) := by decide +kernel
theorem dX6_letter_1 : decode cX6_letter 1 = .ok (.iload_n 1, 1) := by decide +kernel
theorem dX6_letter_2 : decode cX6_letter 2 = .ok (.invokevirtual 94, 3) := by decide +kernel
theorem dX6_letter_5 : decode cX6_letter 5 = .ok (.astore_n 3, 1) := by decide +kernel
theorem dX6_letter_6 : decode cX6_letter 6 = .ok (.aload_n 3, 1) := by decide +kernel
theorem dX6_letter_7 : decode cX6_letter 7 = .ok (.ifnull 23, 3) := by decide +kernel
theorem dX6_letter_10 : decode cX6_letter 10 = .ok (.iload_n 2, 1) := by decide +kernel
theorem dX6_letter_11 : decode cX6_letter 11 = .ok (.bipush 26, 2) := by decide +kernel
theorem dX6_letter_13 : decode cX6_letter 13 = .ok (.invokestatic 66, 3) := by decide +kernel
theorem dX6_letter_16 : decode cX6_letter 16 = .ok (.ifCond .eq 14, 3) := by decide +kernel
theorem dX6_letter_19 : decode cX6_letter 19 = .ok (.aload_n 0, 1) := by decide +kernel
theorem dX6_letter_20 : decode cX6_letter 20 = .ok (.getfield 32, 3) := by decide +kernel
theorem dX6_letter_23 : decode cX6_letter 23 = .ok (.iload_n 1, 1) := by decide +kernel
theorem dX6_letter_24 : decode cX6_letter 24 = .ok (.invokevirtual 98, 3) := by decide +kernel
theorem dX6_letter_27 : decode cX6_letter 27 = .ok (.ifCond .eq 5, 3) := by decide +kernel
theorem dX6_letter_30 : decode cX6_letter 30 = .ok (.iconst (-1), 1) := by decide +kernel
theorem dX6_letter_31 : decode cX6_letter 31 = .ok (.ireturn, 1) := by decide +kernel
theorem dX6_letter_32 : decode cX6_letter 32 = .ok (.aload_n 3, 1) := by decide +kernel
theorem dX6_letter_33 : decode cX6_letter 33 = .ok (.iload_n 2, 1) := by decide +kernel
theorem dX6_letter_34 : decode cX6_letter 34 = .ok (.invokevirtual 102, 3) := by decide +kernel
theorem dX6_letter_37 : decode cX6_letter 37 = .ok (.ireturn, 1) := by decide +kernel
theorem dX6_code_0 : decode cX6_code 0 = .ok (.aload_n 0, 1) := by decide +kernel
theorem dX6_code_1 : decode cX6_code 1 = .ok (.iload_n 1, 1) := by decide +kernel
theorem dX6_code_2 : decode cX6_code 2 = .ok (.invokevirtual 94, 3) := by decide +kernel
theorem dX6_code_5 : decode cX6_code 5 = .ok (.astore_n 3, 1) := by decide +kernel
theorem dX6_code_6 : decode cX6_code 6 = .ok (.aload_n 3, 1) := by decide +kernel
theorem dX6_code_7 : decode cX6_code 7 = .ok (.ifnull 23, 3) := by decide +kernel
theorem dX6_code_10 : decode cX6_code 10 = .ok (.iload_n 2, 1) := by decide +kernel
theorem dX6_code_11 : decode cX6_code 11 = .ok (.ldc 105, 2) := by decide +kernel
theorem dX6_code_13 : decode cX6_code 13 = .ok (.invokestatic 66, 3) := by decide +kernel
theorem dX6_code_16 : decode cX6_code 16 = .ok (.ifCond .eq 14, 3) := by decide +kernel
theorem dX6_code_19 : decode cX6_code 19 = .ok (.aload_n 0, 1) := by decide +kernel
theorem dX6_code_20 : decode cX6_code 20 = .ok (.getfield 32, 3) := by decide +kernel
theorem dX6_code_23 : decode cX6_code 23 = .ok (.iload_n 1, 1) := by decide +kernel
theorem dX6_code_24 : decode cX6_code 24 = .ok (.invokevirtual 98, 3) := by decide +kernel
theorem dX6_code_27 : decode cX6_code 27 = .ok (.ifCond .eq 5, 3) := by decide +kernel
theorem dX6_code_30 : decode cX6_code 30 = .ok (.iconst (-1), 1) := by decide +kernel
theorem dX6_code_31 : decode cX6_code 31 = .ok (.ireturn, 1) := by decide +kernel
theorem dX6_code_32 : decode cX6_code 32 = .ok (.aload_n 3, 1) := by decide +kernel
theorem dX6_code_33 : decode cX6_code 33 = .ok (.iload_n 2, 1) := by decide +kernel
theorem dX6_code_34 : decode cX6_code 34 = .ok (.invokevirtual 106, 3) := by decide +kernel
theorem dX6_code_37 : decode cX6_code 37 = .ok (.ireturn, 1) := by decide +kernel
theorem dX6_paper_0 : decode cX6_paper 0 = .ok (.aload_n 0, 1) := by decide +kernel
theorem dX6_paper_1 : decode cX6_paper 1 = .ok (.iload_n 2, 1) := by decide +kernel
theorem dX6_paper_2 : decode cX6_paper 2 = .ok (.invokevirtual 94, 3) := by decide +kernel
theorem dX6_paper_5 : decode cX6_paper 5 = .ok (.astore 5, 2) := by decide +kernel
theorem dX6_paper_7 : decode cX6_paper 7 = .ok (.aload 5, 2) := by decide +kernel
theorem dX6_paper_9 : decode cX6_paper 9 = .ok (.ifnull 34, 3) := by decide +kernel
theorem dX6_paper_12 : decode cX6_paper 12 = .ok (.iload_n 3, 1) := by decide +kernel
theorem dX6_paper_13 : decode cX6_paper 13 = .ok (.iload_n 1, 1) := by decide +kernel
theorem dX6_paper_14 : decode cX6_paper 14 = .ok (.invokestatic 109, 3) := by decide +kernel
theorem dX6_paper_17 : decode cX6_paper 17 = .ok (.invokestatic 66, 3) := by decide +kernel
theorem dX6_paper_20 : decode cX6_paper 20 = .ok (.ifCond .eq 23, 3) := by decide +kernel
theorem dX6_paper_23 : decode cX6_paper 23 = .ok (.iload 4, 2) := by decide +kernel
theorem dX6_paper_25 : decode cX6_paper 25 = .ok (.invokestatic 112, 3) := by decide +kernel
theorem dX6_paper_28 : decode cX6_paper 28 = .ok (.ifCond .eq 15, 3) := by decide +kernel
theorem dX6_paper_31 : decode cX6_paper 31 = .ok (.aload_n 0, 1) := by decide +kernel
theorem dX6_paper_32 : decode cX6_paper 32 = .ok (.getfield 32, 3) := by decide +kernel
theorem dX6_paper_35 : decode cX6_paper 35 = .ok (.iload 4, 2) := by decide +kernel
theorem dX6_paper_37 : decode cX6_paper 37 = .ok (.invokevirtual 115, 3) := by decide +kernel
theorem dX6_paper_40 : decode cX6_paper 40 = .ok (.ifCond .ne 5, 3) := by decide +kernel
theorem dX6_paper_43 : decode cX6_paper 43 = .ok (.iconst (-1), 1) := by decide +kernel
theorem dX6_paper_44 : decode cX6_paper 44 = .ok (.ireturn, 1) := by decide +kernel
theorem dX6_paper_45 : decode cX6_paper 45 = .ok (.aload_n 0, 1) := by decide +kernel
theorem dX6_paper_46 : decode cX6_paper 46 = .ok (.getfield 49, 3) := by decide +kernel
theorem dX6_paper_49 : decode cX6_paper 49 = .ok (.aload_n 0, 1) := by decide +kernel
theorem dX6_paper_50 : decode cX6_paper 50 = .ok (.getfield 32, 3) := by decide +kernel
theorem dX6_paper_53 : decode cX6_paper 53 = .ok (.iload_n 2, 1) := by decide +kernel
theorem dX6_paper_54 : decode cX6_paper 54 = .ok (.iconst (-1), 1) := by decide +kernel
theorem dX6_paper_55 : decode cX6_paper 55 = .ok (.iload 4, 2) := by decide +kernel
theorem dX6_paper_57 : decode cX6_paper 57 = .ok (.invokevirtual 118, 3) := by decide +kernel
theorem dX6_paper_60 : decode cX6_paper 60 = .ok (.aload_n 0, 1) := by decide +kernel
theorem dX6_paper_61 : decode cX6_paper 61 = .ok (.iload_n 1, 1) := by decide +kernel
theorem dX6_paper_62 : decode cX6_paper 62 = .ok (.iload_n 2, 1) := by decide +kernel
theorem dX6_paper_63 : decode cX6_paper 63 = .ok (.iload_n 3, 1) := by decide +kernel
theorem dX6_paper_64 : decode cX6_paper 64 = .ok (.iload 4, 2) := by decide +kernel
theorem dX6_paper_66 : decode cX6_paper 66 = .ok (.invokevirtual 122, 3) := by decide +kernel
theorem dX6_paper_69 : decode cX6_paper 69 = .ok (.ifCond .ne 5, 3) := by decide +kernel
theorem dX6_paper_72 : decode cX6_paper 72 = .ok (.iconst (-1), 1) := by decide +kernel
theorem dX6_paper_73 : decode cX6_paper 73 = .ok (.ireturn, 1) := by decide +kernel
theorem dX6_paper_74 : decode cX6_paper 74 = .ok (.aload_n 0, 1) := by decide +kernel
theorem dX6_paper_75 : decode cX6_paper 75 = .ok (.getfield 32, 3) := by decide +kernel
theorem dX6_paper_78 : decode cX6_paper 78 = .ok (.iload_n 1, 1) := by decide +kernel
theorem dX6_paper_79 : decode cX6_paper 79 = .ok (.iload_n 2, 1) := by decide +kernel
theorem dX6_paper_80 : decode cX6_paper 80 = .ok (.iload_n 3, 1) := by decide +kernel
theorem dX6_paper_81 : decode cX6_paper 81 = .ok (.iload 4, 2) := by decide +kernel
theorem dX6_paper_83 : decode cX6_paper 83 = .ok (.invokevirtual 126, 3) := by decide +kernel
theorem dX6_paper_86 : decode cX6_paper 86 = .ok (.ireturn, 1) := by decide +kernel
theorem dX6_oppose_0 : decode cX6_oppose 0 = .ok (.aload_n 0, 1) := by decide +kernel
theorem dX6_oppose_1 : decode cX6_oppose 1 = .ok (.iload_n 1, 1) := by decide +kernel
theorem dX6_oppose_2 : decode cX6_oppose 2 = .ok (.invokevirtual 94, 3) := by decide +kernel
theorem dX6_oppose_5 : decode cX6_oppose 5 = .ok (.ifnull 18, 3) := by decide +kernel
theorem dX6_oppose_8 : decode cX6_oppose 8 = .ok (.aload_n 0, 1) := by decide +kernel
theorem dX6_oppose_9 : decode cX6_oppose 9 = .ok (.iload_n 2, 1) := by decide +kernel
theorem dX6_oppose_10 : decode cX6_oppose 10 = .ok (.invokevirtual 94, 3) := by decide +kernel
theorem dX6_oppose_13 : decode cX6_oppose 13 = .ok (.ifnull 10, 3) := by decide +kernel
theorem dX6_oppose_16 : decode cX6_oppose 16 = .ok (.iload_n 3, 1) := by decide +kernel
theorem dX6_oppose_17 : decode cX6_oppose 17 = .ok (.invokestatic 112, 3) := by decide +kernel
theorem dX6_oppose_20 : decode cX6_oppose 20 = .ok (.ifCond .ne 5, 3) := by decide +kernel
theorem dX6_oppose_23 : decode cX6_oppose 23 = .ok (.iconst (-1), 1) := by decide +kernel
theorem dX6_oppose_24 : decode cX6_oppose 24 = .ok (.ireturn, 1) := by decide +kernel
theorem dX6_oppose_25 : decode cX6_oppose 25 = .ok (.aload_n 0, 1) := by decide +kernel
theorem dX6_oppose_26 : decode cX6_oppose 26 = .ok (.getfield 49, 3) := by decide +kernel
theorem dX6_oppose_29 : decode cX6_oppose 29 = .ok (.aload_n 0, 1) := by decide +kernel
theorem dX6_oppose_30 : decode cX6_oppose 30 = .ok (.getfield 32, 3) := by decide +kernel
theorem dX6_oppose_33 : decode cX6_oppose 33 = .ok (.iload_n 1, 1) := by decide +kernel
theorem dX6_oppose_34 : decode cX6_oppose 34 = .ok (.iconst (-1), 1) := by decide +kernel
theorem dX6_oppose_35 : decode cX6_oppose 35 = .ok (.iload_n 3, 1) := by decide +kernel
theorem dX6_oppose_36 : decode cX6_oppose 36 = .ok (.invokevirtual 118, 3) := by decide +kernel
theorem dX6_oppose_39 : decode cX6_oppose 39 = .ok (.aload_n 0, 1) := by decide +kernel
theorem dX6_oppose_40 : decode cX6_oppose 40 = .ok (.getfield 49, 3) := by decide +kernel
theorem dX6_oppose_43 : decode cX6_oppose 43 = .ok (.invokevirtual 130, 3) := by decide +kernel
theorem dX6_oppose_46 : decode cX6_oppose 46 = .ok (.ifCond .eq 17, 3) := by decide +kernel
theorem dX6_oppose_49 : decode cX6_oppose 49 = .ok (.iload_n 3, 1) := by decide +kernel
theorem dX6_oppose_50 : decode cX6_oppose 50 = .ok (.aload_n 0, 1) := by decide +kernel
theorem dX6_oppose_51 : decode cX6_oppose 51 = .ok (.getfield 49, 3) := by decide +kernel
theorem dX6_oppose_54 : decode cX6_oppose 54 = .ok (.getfield 134, 3) := by decide +kernel
theorem dX6_oppose_57 : decode cX6_oppose 57 = .ok (.isub, 1) := by decide +kernel
theorem dX6_oppose_58 : decode cX6_oppose 58 = .ok (.bipush 90, 2) := by decide +kernel
theorem dX6_oppose_60 : decode cX6_oppose 60 = .ok (.if_icmp .le 5, 3) := by decide +kernel
theorem dX6_oppose_63 : decode cX6_oppose 63 = .ok (.iconst (-1), 1) := by decide +kernel
theorem dX6_oppose_64 : decode cX6_oppose 64 = .ok (.ireturn, 1) := by decide +kernel
theorem dX6_oppose_65 : decode cX6_oppose 65 = .ok (.iconst 0, 1) := by decide +kernel
theorem dX6_oppose_66 : decode cX6_oppose 66 = .ok (.istore 4, 2) := by decide +kernel
theorem dX6_oppose_68 : decode cX6_oppose 68 = .ok (.iload 4, 2) := by decide +kernel
theorem dX6_oppose_70 : decode cX6_oppose 70 = .ok (.bipush 16, 2) := by decide +kernel
theorem dX6_oppose_72 : decode cX6_oppose 72 = .ok (.if_icmp .ge 37, 3) := by decide +kernel
theorem dX6_oppose_75 : decode cX6_oppose 75 = .ok (.aload_n 0, 1) := by decide +kernel
theorem dX6_oppose_76 : decode cX6_oppose 76 = .ok (.iload_n 2, 1) := by decide +kernel
theorem dX6_oppose_77 : decode cX6_oppose 77 = .ok (.iload_n 1, 1) := by decide +kernel
theorem dX6_oppose_78 : decode cX6_oppose 78 = .ok (.iload 4, 2) := by decide +kernel
theorem dX6_oppose_80 : decode cX6_oppose 80 = .ok (.iload_n 3, 1) := by decide +kernel
theorem dX6_oppose_81 : decode cX6_oppose 81 = .ok (.invokevirtual 137, 3) := by decide +kernel
theorem dX6_oppose_84 : decode cX6_oppose 84 = .ok (.aload_n 0, 1) := by decide +kernel
theorem dX6_oppose_85 : decode cX6_oppose 85 = .ok (.getfield 62, 3) := by decide +kernel
theorem dX6_oppose_88 : decode cX6_oppose 88 = .ok (.invokevirtual 141, 3) := by decide +kernel
theorem dX6_oppose_91 : decode cX6_oppose 91 = .ok (.ifCond .eq 12, 3) := by decide +kernel
theorem dX6_oppose_94 : decode cX6_oppose 94 = .ok (.aload_n 0, 1) := by decide +kernel
theorem dX6_oppose_95 : decode cX6_oppose 95 = .ok (.iconst 4, 1) := by decide +kernel
theorem dX6_oppose_96 : decode cX6_oppose 96 = .ok (.iload_n 1, 1) := by decide +kernel
theorem dX6_oppose_97 : decode cX6_oppose 97 = .ok (.iconst 0, 1) := by decide +kernel
theorem dX6_oppose_98 : decode cX6_oppose 98 = .ok (.iload_n 3, 1) := by decide +kernel
theorem dX6_oppose_99 : decode cX6_oppose 99 = .ok (.invokevirtual 144, 3) := by decide +kernel
theorem dX6_oppose_102 : decode cX6_oppose 102 = .ok (.ireturn, 1) := by decide +kernel
theorem dX6_oppose_103 : decode cX6_oppose 103 = .ok (.iinc 4 1, 3) := by decide +kernel
theorem dX6_oppose_106 : decode cX6_oppose 106 = .ok (.goto (-38), 3) := by decide +kernel
theorem dX6_oppose_109 : decode cX6_oppose 109 = .ok (.iconst (-1), 1) := by decide +kernel
theorem dX6_oppose_110 : decode cX6_oppose 110 = .ok (.ireturn, 1) := by decide +kernel
theorem dX6_undo_0 : decode cX6_undo 0 = .ok (.aload_n 0, 1) := by decide +kernel
theorem dX6_undo_1 : decode cX6_undo 1 = .ok (.getfield 32, 3) := by decide +kernel
theorem dX6_undo_4 : decode cX6_undo 4 = .ok (.invokevirtual 147, 3) := by decide +kernel
theorem dX6_undo_7 : decode cX6_undo 7 = .ok (.ireturn, 1) := by decide +kernel
theorem dX6_paperOf_0 : decode cX6_paperOf 0 = .ok (.iload_n 1, 1) := by decide +kernel
theorem dX6_paperOf_1 : decode cX6_paperOf 1 = .ok (.aload_n 0, 1) := by decide +kernel
theorem dX6_paperOf_2 : decode cX6_paperOf 2 = .ok (.getfield 32, 3) := by decide +kernel
theorem dX6_paperOf_5 : decode cX6_paperOf 5 = .ok (.getfield 151, 3) := by decide +kernel
theorem dX6_paperOf_8 : decode cX6_paperOf 8 = .ok (.invokestatic 66, 3) := by decide +kernel
theorem dX6_paperOf_11 : decode cX6_paperOf 11 = .ok (.ifCond .ne 5, 3) := by decide +kernel
theorem dX6_paperOf_14 : decode cX6_paperOf 14 = .ok (.iconst (-1), 1) := by decide +kernel
theorem dX6_paperOf_15 : decode cX6_paperOf 15 = .ok (.ireturn, 1) := by decide +kernel
theorem dX6_paperOf_16 : decode cX6_paperOf 16 = .ok (.iload_n 2, 1) := by decide +kernel
theorem dX6_paperOf_17 : decode cX6_paperOf 17 = .ok (.tableswitch 71 0 3 #[31, 41, 51, 61], 31) := by decide +kernel
theorem dX6_paperOf_48 : decode cX6_paperOf 48 = .ok (.aload_n 0, 1) := by decide +kernel
theorem dX6_paperOf_49 : decode cX6_paperOf 49 = .ok (.getfield 32, 3) := by decide +kernel
theorem dX6_paperOf_52 : decode cX6_paperOf 52 = .ok (.getfield 154, 3) := by decide +kernel
theorem dX6_paperOf_55 : decode cX6_paperOf 55 = .ok (.iload_n 1, 1) := by decide +kernel
theorem dX6_paperOf_56 : decode cX6_paperOf 56 = .ok (.iaload, 1) := by decide +kernel
theorem dX6_paperOf_57 : decode cX6_paperOf 57 = .ok (.ireturn, 1) := by decide +kernel
theorem dX6_paperOf_58 : decode cX6_paperOf 58 = .ok (.aload_n 0, 1) := by decide +kernel
theorem dX6_paperOf_59 : decode cX6_paperOf 59 = .ok (.getfield 32, 3) := by decide +kernel
theorem dX6_paperOf_62 : decode cX6_paperOf 62 = .ok (.getfield 158, 3) := by decide +kernel
theorem dX6_paperOf_65 : decode cX6_paperOf 65 = .ok (.iload_n 1, 1) := by decide +kernel
theorem dX6_paperOf_66 : decode cX6_paperOf 66 = .ok (.iaload, 1) := by decide +kernel
theorem dX6_paperOf_67 : decode cX6_paperOf 67 = .ok (.ireturn, 1) := by decide +kernel
theorem dX6_paperOf_68 : decode cX6_paperOf 68 = .ok (.aload_n 0, 1) := by decide +kernel
theorem dX6_paperOf_69 : decode cX6_paperOf 69 = .ok (.getfield 32, 3) := by decide +kernel
theorem dX6_paperOf_72 : decode cX6_paperOf 72 = .ok (.getfield 160, 3) := by decide +kernel
theorem dX6_paperOf_75 : decode cX6_paperOf 75 = .ok (.iload_n 1, 1) := by decide +kernel
theorem dX6_paperOf_76 : decode cX6_paperOf 76 = .ok (.iaload, 1) := by decide +kernel
theorem dX6_paperOf_77 : decode cX6_paperOf 77 = .ok (.ireturn, 1) := by decide +kernel
theorem dX6_paperOf_78 : decode cX6_paperOf 78 = .ok (.aload_n 0, 1) := by decide +kernel
theorem dX6_paperOf_79 : decode cX6_paperOf 79 = .ok (.getfield 32, 3) := by decide +kernel
theorem dX6_paperOf_82 : decode cX6_paperOf 82 = .ok (.getfield 163, 3) := by decide +kernel
theorem dX6_paperOf_85 : decode cX6_paperOf 85 = .ok (.iload_n 1, 1) := by decide +kernel
theorem dX6_paperOf_86 : decode cX6_paperOf 86 = .ok (.iaload, 1) := by decide +kernel
theorem dX6_paperOf_87 : decode cX6_paperOf 87 = .ok (.ireturn, 1) := by decide +kernel
theorem dX6_paperOf_88 : decode cX6_paperOf 88 = .ok (.iconst (-1), 1) := by decide +kernel
theorem dX6_paperOf_89 : decode cX6_paperOf 89 = .ok (.ireturn, 1) := by decide +kernel
theorem dX6_markOf_0 : decode cX6_markOf 0 = .ok (.aload_n 0, 1) := by decide +kernel
theorem dX6_markOf_1 : decode cX6_markOf 1 = .ok (.iload_n 1, 1) := by decide +kernel
theorem dX6_markOf_2 : decode cX6_markOf 2 = .ok (.invokevirtual 94, 3) := by decide +kernel
theorem dX6_markOf_5 : decode cX6_markOf 5 = .ok (.astore_n 3, 1) := by decide +kernel
theorem dX6_markOf_6 : decode cX6_markOf 6 = .ok (.aload_n 3, 1) := by decide +kernel
theorem dX6_markOf_7 : decode cX6_markOf 7 = .ok (.ifnonnull 5, 3) := by decide +kernel
theorem dX6_markOf_10 : decode cX6_markOf 10 = .ok (.iconst (-1), 1) := by decide +kernel
theorem dX6_markOf_11 : decode cX6_markOf 11 = .ok (.ireturn, 1) := by decide +kernel
theorem dX6_markOf_12 : decode cX6_markOf 12 = .ok (.iload_n 2, 1) := by decide +kernel
theorem dX6_markOf_13 : decode cX6_markOf 13 = .ok (.tableswitch 64 0 4 #[35, 40, 45, 50, 59], 35) := by decide +kernel
theorem dX6_markOf_48 : decode cX6_markOf 48 = .ok (.aload_n 3, 1) := by decide +kernel
theorem dX6_markOf_49 : decode cX6_markOf 49 = .ok (.getfield 166, 3) := by decide +kernel
theorem dX6_markOf_52 : decode cX6_markOf 52 = .ok (.ireturn, 1) := by decide +kernel
theorem dX6_markOf_53 : decode cX6_markOf 53 = .ok (.aload_n 3, 1) := by decide +kernel
theorem dX6_markOf_54 : decode cX6_markOf 54 = .ok (.getfield 169, 3) := by decide +kernel
theorem dX6_markOf_57 : decode cX6_markOf 57 = .ok (.ireturn, 1) := by decide +kernel
theorem dX6_markOf_58 : decode cX6_markOf 58 = .ok (.aload_n 3, 1) := by decide +kernel
theorem dX6_markOf_59 : decode cX6_markOf 59 = .ok (.getfield 172, 3) := by decide +kernel
theorem dX6_markOf_62 : decode cX6_markOf 62 = .ok (.ireturn, 1) := by decide +kernel
theorem dX6_markOf_63 : decode cX6_markOf 63 = .ok (.aload_n 0, 1) := by decide +kernel
theorem dX6_markOf_64 : decode cX6_markOf 64 = .ok (.getfield 10, 3) := by decide +kernel
theorem dX6_markOf_67 : decode cX6_markOf 67 = .ok (.aload_n 3, 1) := by decide +kernel
theorem dX6_markOf_68 : decode cX6_markOf 68 = .ok (.invokevirtual 175, 3) := by decide +kernel
theorem dX6_markOf_71 : decode cX6_markOf 71 = .ok (.ireturn, 1) := by decide +kernel
theorem dX6_markOf_72 : decode cX6_markOf 72 = .ok (.aload_n 3, 1) := by decide +kernel
theorem dX6_markOf_73 : decode cX6_markOf 73 = .ok (.getfield 179, 3) := by decide +kernel
theorem dX6_markOf_76 : decode cX6_markOf 76 = .ok (.ireturn, 1) := by decide +kernel
theorem dX6_markOf_77 : decode cX6_markOf 77 = .ok (.iconst (-1), 1) := by decide +kernel
theorem dX6_markOf_78 : decode cX6_markOf 78 = .ok (.ireturn, 1) := by decide +kernel
theorem dX6_soundOf_0 : decode cX6_soundOf 0 = .ok (.aload_n 0, 1) := by decide +kernel
theorem dX6_soundOf_1 : decode cX6_soundOf 1 = .ok (.iload_n 1, 1) := by decide +kernel
theorem dX6_soundOf_2 : decode cX6_soundOf 2 = .ok (.invokevirtual 94, 3) := by decide +kernel
theorem dX6_soundOf_5 : decode cX6_soundOf 5 = .ok (.astore_n 3, 1) := by decide +kernel
theorem dX6_soundOf_6 : decode cX6_soundOf 6 = .ok (.aload_n 3, 1) := by decide +kernel
theorem dX6_soundOf_7 : decode cX6_soundOf 7 = .ok (.ifnonnull 7, 3) := by decide +kernel
theorem dX6_soundOf_10 : decode cX6_soundOf 10 = .ok (.iconst (-1), 1) := by decide +kernel
theorem dX6_soundOf_11 : decode cX6_soundOf 11 = .ok (.goto 12, 3) := by decide +kernel
theorem dX6_soundOf_14 : decode cX6_soundOf 14 = .ok (.aload_n 0, 1) := by decide +kernel
theorem dX6_soundOf_15 : decode cX6_soundOf 15 = .ok (.getfield 10, 3) := by decide +kernel
theorem dX6_soundOf_18 : decode cX6_soundOf 18 = .ok (.aload_n 3, 1) := by decide +kernel
theorem dX6_soundOf_19 : decode cX6_soundOf 19 = .ok (.iload_n 2, 1) := by decide +kernel
theorem dX6_soundOf_20 : decode cX6_soundOf 20 = .ok (.invokevirtual 182, 3) := by decide +kernel
theorem dX6_soundOf_23 : decode cX6_soundOf 23 = .ok (.ireturn, 1) := by decide +kernel
theorem dX6_like_0 : decode cX6_like 0 = .ok (.aload_n 0, 1) := by decide +kernel
theorem dX6_like_1 : decode cX6_like 1 = .ok (.iload_n 1, 1) := by decide +kernel
theorem dX6_like_2 : decode cX6_like 2 = .ok (.invokevirtual 94, 3) := by decide +kernel
theorem dX6_like_5 : decode cX6_like 5 = .ok (.astore 4, 2) := by decide +kernel
theorem dX6_like_7 : decode cX6_like 7 = .ok (.aload_n 0, 1) := by decide +kernel
theorem dX6_like_8 : decode cX6_like 8 = .ok (.iload_n 2, 1) := by decide +kernel
theorem dX6_like_9 : decode cX6_like 9 = .ok (.invokevirtual 94, 3) := by decide +kernel
theorem dX6_like_12 : decode cX6_like 12 = .ok (.astore 5, 2) := by decide +kernel
theorem dX6_like_14 : decode cX6_like 14 = .ok (.aload 4, 2) := by decide +kernel
theorem dX6_like_16 : decode cX6_like 16 = .ok (.ifnull 8, 3) := by decide +kernel
theorem dX6_like_19 : decode cX6_like 19 = .ok (.aload 5, 2) := by decide +kernel
theorem dX6_like_21 : decode cX6_like 21 = .ok (.ifnonnull 5, 3) := by decide +kernel
theorem dX6_like_24 : decode cX6_like 24 = .ok (.iconst (-1), 1) := by decide +kernel
theorem dX6_like_25 : decode cX6_like 25 = .ok (.ireturn, 1) := by decide +kernel
theorem dX6_like_26 : decode cX6_like 26 = .ok (.iload_n 3, 1) := by decide +kernel
theorem dX6_like_27 : decode cX6_like 27 = .ok (.lookupswitch 46 #[(0, 25), (1, 34)], 25) := by decide +kernel
theorem dX6_like_52 : decode cX6_like 52 = .ok (.aload_n 0, 1) := by decide +kernel
theorem dX6_like_53 : decode cX6_like 53 = .ok (.aload 4, 2) := by decide +kernel
theorem dX6_like_55 : decode cX6_like 55 = .ok (.aload 5, 2) := by decide +kernel
theorem dX6_like_57 : decode cX6_like 57 = .ok (.invokevirtual 186, 3) := by decide +kernel
theorem dX6_like_60 : decode cX6_like 60 = .ok (.ireturn, 1) := by decide +kernel
theorem dX6_like_61 : decode cX6_like 61 = .ok (.aload_n 0, 1) := by decide +kernel
theorem dX6_like_62 : decode cX6_like 62 = .ok (.getfield 10, 3) := by decide +kernel
theorem dX6_like_65 : decode cX6_like 65 = .ok (.aload 4, 2) := by decide +kernel
theorem dX6_like_67 : decode cX6_like 67 = .ok (.aload 5, 2) := by decide +kernel
theorem dX6_like_69 : decode cX6_like 69 = .ok (.invokevirtual 190, 3) := by decide +kernel
theorem dX6_like_72 : decode cX6_like 72 = .ok (.ireturn, 1) := by decide +kernel
theorem dX6_like_73 : decode cX6_like 73 = .ok (.iconst (-1), 1) := by decide +kernel
theorem dX6_like_74 : decode cX6_like 74 = .ok (.ireturn, 1) := by decide +kernel
theorem dX6_right_0 : decode cX6_right 0 = .ok (.aload_n 0, 1) := by decide +kernel
theorem dX6_right_1 : decode cX6_right 1 = .ok (.iload_n 1, 1) := by decide +kernel
theorem dX6_right_2 : decode cX6_right 2 = .ok (.invokevirtual 94, 3) := by decide +kernel
theorem dX6_right_5 : decode cX6_right 5 = .ok (.ifnull 30, 3) := by decide +kernel
theorem dX6_right_8 : decode cX6_right 8 = .ok (.iload_n 2, 1) := by decide +kernel
theorem dX6_right_9 : decode cX6_right 9 = .ok (.sipush 360, 3) := by decide +kernel
theorem dX6_right_12 : decode cX6_right 12 = .ok (.invokestatic 66, 3) := by decide +kernel
theorem dX6_right_15 : decode cX6_right 15 = .ok (.ifCond .eq 20, 3) := by decide +kernel
theorem dX6_right_18 : decode cX6_right 18 = .ok (.iload_n 3, 1) := by decide +kernel
theorem dX6_right_19 : decode cX6_right 19 = .ok (.bipush 16, 2) := by decide +kernel
theorem dX6_right_21 : decode cX6_right 21 = .ok (.invokestatic 66, 3) := by decide +kernel
theorem dX6_right_24 : decode cX6_right 24 = .ok (.ifCond .eq 11, 3) := by decide +kernel
theorem dX6_right_27 : decode cX6_right 27 = .ok (.iload 4, 2) := by decide +kernel
theorem dX6_right_29 : decode cX6_right 29 = .ok (.invokestatic 112, 3) := by decide +kernel
theorem dX6_right_32 : decode cX6_right 32 = .ok (.ifCond .ne 5, 3) := by decide +kernel
theorem dX6_right_35 : decode cX6_right 35 = .ok (.iconst (-1), 1) := by decide +kernel
theorem dX6_right_36 : decode cX6_right 36 = .ok (.ireturn, 1) := by decide +kernel
theorem dX6_right_37 : decode cX6_right 37 = .ok (.aload_n 0, 1) := by decide +kernel
theorem dX6_right_38 : decode cX6_right 38 = .ok (.getfield 49, 3) := by decide +kernel
theorem dX6_right_41 : decode cX6_right 41 = .ok (.aload_n 0, 1) := by decide +kernel
theorem dX6_right_42 : decode cX6_right 42 = .ok (.getfield 32, 3) := by decide +kernel
theorem dX6_right_45 : decode cX6_right 45 = .ok (.iload_n 1, 1) := by decide +kernel
theorem dX6_right_46 : decode cX6_right 46 = .ok (.iload_n 3, 1) := by decide +kernel
theorem dX6_right_47 : decode cX6_right 47 = .ok (.iload 4, 2) := by decide +kernel
theorem dX6_right_49 : decode cX6_right 49 = .ok (.invokevirtual 118, 3) := by decide +kernel
theorem dX6_right_52 : decode cX6_right 52 = .ok (.aload_n 0, 1) := by decide +kernel
theorem dX6_right_53 : decode cX6_right 53 = .ok (.getfield 49, 3) := by decide +kernel
theorem dX6_right_56 : decode cX6_right 56 = .ok (.iload_n 2, 1) := by decide +kernel
theorem dX6_right_57 : decode cX6_right 57 = .ok (.invokevirtual 193, 3) := by decide +kernel
theorem dX6_right_60 : decode cX6_right 60 = .ok (.istore 6, 2) := by decide +kernel
theorem dX6_right_62 : decode cX6_right 62 = .ok (.iload 5, 2) := by decide +kernel
theorem dX6_right_64 : decode cX6_right 64 = .ok (.tableswitch 66 0 2 #[28, 38, 48], 28) := by decide +kernel
theorem dX6_right_92 : decode cX6_right 92 = .ok (.aload_n 0, 1) := by decide +kernel
theorem dX6_right_93 : decode cX6_right 93 = .ok (.getfield 49, 3) := by decide +kernel
theorem dX6_right_96 : decode cX6_right 96 = .ok (.iload 6, 2) := by decide +kernel
theorem dX6_right_98 : decode cX6_right 98 = .ok (.invokevirtual 196, 3) := by decide +kernel
theorem dX6_right_101 : decode cX6_right 101 = .ok (.ireturn, 1) := by decide +kernel
theorem dX6_right_102 : decode cX6_right 102 = .ok (.aload_n 0, 1) := by decide +kernel
theorem dX6_right_103 : decode cX6_right 103 = .ok (.getfield 49, 3) := by decide +kernel
theorem dX6_right_106 : decode cX6_right 106 = .ok (.iload 6, 2) := by decide +kernel
theorem dX6_right_108 : decode cX6_right 108 = .ok (.invokevirtual 199, 3) := by decide +kernel
theorem dX6_right_111 : decode cX6_right 111 = .ok (.ireturn, 1) := by decide +kernel
theorem dX6_right_112 : decode cX6_right 112 = .ok (.aload_n 0, 1) := by decide +kernel
theorem dX6_right_113 : decode cX6_right 113 = .ok (.getfield 49, 3) := by decide +kernel
theorem dX6_right_116 : decode cX6_right 116 = .ok (.iload 6, 2) := by decide +kernel
theorem dX6_right_118 : decode cX6_right 118 = .ok (.invokevirtual 202, 3) := by decide +kernel
theorem dX6_right_121 : decode cX6_right 121 = .ok (.ifCond .eq 7, 3) := by decide +kernel
theorem dX6_right_124 : decode cX6_right 124 = .ok (.iconst 1, 1) := by decide +kernel
theorem dX6_right_125 : decode cX6_right 125 = .ok (.goto 4, 3) := by decide +kernel
theorem dX6_right_128 : decode cX6_right 128 = .ok (.iconst 0, 1) := by decide +kernel
theorem dX6_right_129 : decode cX6_right 129 = .ok (.ireturn, 1) := by decide +kernel
theorem dX6_right_130 : decode cX6_right 130 = .ok (.iconst (-1), 1) := by decide +kernel
theorem dX6_right_131 : decode cX6_right 131 = .ok (.ireturn, 1) := by decide +kernel
theorem dX6_state_0 : decode cX6_state 0 = .ok (.aload_n 0, 1) := by decide +kernel
theorem dX6_state_1 : decode cX6_state 1 = .ok (.iload_n 1, 1) := by decide +kernel
theorem dX6_state_2 : decode cX6_state 2 = .ok (.invokevirtual 94, 3) := by decide +kernel
theorem dX6_state_5 : decode cX6_state 5 = .ok (.ifnull 10, 3) := by decide +kernel
theorem dX6_state_8 : decode cX6_state 8 = .ok (.iload_n 2, 1) := by decide +kernel
theorem dX6_state_9 : decode cX6_state 9 = .ok (.invokestatic 112, 3) := by decide +kernel
theorem dX6_state_12 : decode cX6_state 12 = .ok (.ifCond .ne 5, 3) := by decide +kernel
theorem dX6_state_15 : decode cX6_state 15 = .ok (.iconst (-1), 1) := by decide +kernel
theorem dX6_state_16 : decode cX6_state 16 = .ok (.ireturn, 1) := by decide +kernel
theorem dX6_state_17 : decode cX6_state 17 = .ok (.aload_n 0, 1) := by decide +kernel
theorem dX6_state_18 : decode cX6_state 18 = .ok (.getfield 49, 3) := by decide +kernel
theorem dX6_state_21 : decode cX6_state 21 = .ok (.aload_n 0, 1) := by decide +kernel
theorem dX6_state_22 : decode cX6_state 22 = .ok (.getfield 32, 3) := by decide +kernel
theorem dX6_state_25 : decode cX6_state 25 = .ok (.iload_n 1, 1) := by decide +kernel
theorem dX6_state_26 : decode cX6_state 26 = .ok (.iconst (-1), 1) := by decide +kernel
theorem dX6_state_27 : decode cX6_state 27 = .ok (.iload_n 2, 1) := by decide +kernel
theorem dX6_state_28 : decode cX6_state 28 = .ok (.invokevirtual 118, 3) := by decide +kernel
theorem dX6_state_31 : decode cX6_state 31 = .ok (.iload_n 3, 1) := by decide +kernel
theorem dX6_state_32 : decode cX6_state 32 = .ok (.tableswitch 118 0 5 #[40, 48, 56, 86, 102, 110], 40) := by decide +kernel
theorem dX6_state_72 : decode cX6_state 72 = .ok (.aload_n 0, 1) := by decide +kernel
theorem dX6_state_73 : decode cX6_state 73 = .ok (.getfield 49, 3) := by decide +kernel
theorem dX6_state_76 : decode cX6_state 76 = .ok (.getfield 134, 3) := by decide +kernel
theorem dX6_state_79 : decode cX6_state 79 = .ok (.ireturn, 1) := by decide +kernel
theorem dX6_state_80 : decode cX6_state 80 = .ok (.aload_n 0, 1) := by decide +kernel
theorem dX6_state_81 : decode cX6_state 81 = .ok (.getfield 49, 3) := by decide +kernel
theorem dX6_state_84 : decode cX6_state 84 = .ok (.invokevirtual 205, 3) := by decide +kernel
theorem dX6_state_87 : decode cX6_state 87 = .ok (.ireturn, 1) := by decide +kernel
theorem dX6_state_88 : decode cX6_state 88 = .ok (.aload_n 0, 1) := by decide +kernel
theorem dX6_state_89 : decode cX6_state 89 = .ok (.getfield 49, 3) := by decide +kernel
theorem dX6_state_92 : decode cX6_state 92 = .ok (.invokevirtual 130, 3) := by decide +kernel
theorem dX6_state_95 : decode cX6_state 95 = .ok (.ifCond .ne 7, 3) := by decide +kernel
theorem dX6_state_98 : decode cX6_state 98 = .ok (.iconst (-1), 1) := by decide +kernel
theorem dX6_state_99 : decode cX6_state 99 = .ok (.goto 18, 3) := by decide +kernel
theorem dX6_state_102 : decode cX6_state 102 = .ok (.aload_n 0, 1) := by decide +kernel
theorem dX6_state_103 : decode cX6_state 103 = .ok (.getfield 49, 3) := by decide +kernel
theorem dX6_state_106 : decode cX6_state 106 = .ok (.invokevirtual 208, 3) := by decide +kernel
theorem dX6_state_109 : decode cX6_state 109 = .ok (.ifCond .eq 7, 3) := by decide +kernel
theorem dX6_state_112 : decode cX6_state 112 = .ok (.iconst 1, 1) := by decide +kernel
theorem dX6_state_113 : decode cX6_state 113 = .ok (.goto 4, 3) := by decide +kernel
theorem dX6_state_116 : decode cX6_state 116 = .ok (.iconst 0, 1) := by decide +kernel
theorem dX6_state_117 : decode cX6_state 117 = .ok (.ireturn, 1) := by decide +kernel
theorem dX6_state_118 : decode cX6_state 118 = .ok (.aload_n 0, 1) := by decide +kernel
theorem dX6_state_119 : decode cX6_state 119 = .ok (.getfield 49, 3) := by decide +kernel
theorem dX6_state_122 : decode cX6_state 122 = .ok (.getfield 211, 3) := by decide +kernel
theorem dX6_state_125 : decode cX6_state 125 = .ok (.ifCond .eq 7, 3) := by decide +kernel
theorem dX6_state_128 : decode cX6_state 128 = .ok (.iconst 1, 1) := by decide +kernel
theorem dX6_state_129 : decode cX6_state 129 = .ok (.goto 4, 3) := by decide +kernel
theorem dX6_state_132 : decode cX6_state 132 = .ok (.iconst 0, 1) := by decide +kernel
theorem dX6_state_133 : decode cX6_state 133 = .ok (.ireturn, 1) := by decide +kernel
theorem dX6_state_134 : decode cX6_state 134 = .ok (.aload_n 0, 1) := by decide +kernel
theorem dX6_state_135 : decode cX6_state 135 = .ok (.getfield 49, 3) := by decide +kernel
theorem dX6_state_138 : decode cX6_state 138 = .ok (.getfield 215, 3) := by decide +kernel
theorem dX6_state_141 : decode cX6_state 141 = .ok (.ireturn, 1) := by decide +kernel
theorem dX6_state_142 : decode cX6_state 142 = .ok (.aload_n 0, 1) := by decide +kernel
theorem dX6_state_143 : decode cX6_state 143 = .ok (.getfield 49, 3) := by decide +kernel
theorem dX6_state_146 : decode cX6_state 146 = .ok (.getfield 216, 3) := by decide +kernel
theorem dX6_state_149 : decode cX6_state 149 = .ok (.ireturn, 1) := by decide +kernel
theorem dX6_state_150 : decode cX6_state 150 = .ok (.iconst (-1), 1) := by decide +kernel
theorem dX6_state_151 : decode cX6_state 151 = .ok (.ireturn, 1) := by decide +kernel
theorem dX6_clash_0 : decode cX6_clash 0 = .ok (.aload_n 0, 1) := by decide +kernel
theorem dX6_clash_1 : decode cX6_clash 1 = .ok (.iload_n 1, 1) := by decide +kernel
theorem dX6_clash_2 : decode cX6_clash 2 = .ok (.invokevirtual 94, 3) := by decide +kernel
theorem dX6_clash_5 : decode cX6_clash 5 = .ok (.ifnull 28, 3) := by decide +kernel
theorem dX6_clash_8 : decode cX6_clash 8 = .ok (.aload_n 0, 1) := by decide +kernel
theorem dX6_clash_9 : decode cX6_clash 9 = .ok (.iload_n 2, 1) := by decide +kernel
theorem dX6_clash_10 : decode cX6_clash 10 = .ok (.invokevirtual 94, 3) := by decide +kernel
theorem dX6_clash_13 : decode cX6_clash 13 = .ok (.ifnull 20, 3) := by decide +kernel
theorem dX6_clash_16 : decode cX6_clash 16 = .ok (.iload_n 3, 1) := by decide +kernel
theorem dX6_clash_17 : decode cX6_clash 17 = .ok (.bipush 16, 2) := by decide +kernel
theorem dX6_clash_19 : decode cX6_clash 19 = .ok (.invokestatic 66, 3) := by decide +kernel
theorem dX6_clash_22 : decode cX6_clash 22 = .ok (.ifCond .eq 11, 3) := by decide +kernel
theorem dX6_clash_25 : decode cX6_clash 25 = .ok (.iload 4, 2) := by decide +kernel
theorem dX6_clash_27 : decode cX6_clash 27 = .ok (.invokestatic 112, 3) := by decide +kernel
theorem dX6_clash_30 : decode cX6_clash 30 = .ok (.ifCond .ne 5, 3) := by decide +kernel
theorem dX6_clash_33 : decode cX6_clash 33 = .ok (.iconst (-1), 1) := by decide +kernel
theorem dX6_clash_34 : decode cX6_clash 34 = .ok (.ireturn, 1) := by decide +kernel
theorem dX6_clash_35 : decode cX6_clash 35 = .ok (.aload_n 0, 1) := by decide +kernel
theorem dX6_clash_36 : decode cX6_clash 36 = .ok (.iload_n 1, 1) := by decide +kernel
theorem dX6_clash_37 : decode cX6_clash 37 = .ok (.iload_n 2, 1) := by decide +kernel
theorem dX6_clash_38 : decode cX6_clash 38 = .ok (.iload_n 3, 1) := by decide +kernel
theorem dX6_clash_39 : decode cX6_clash 39 = .ok (.iload 4, 2) := by decide +kernel
theorem dX6_clash_41 : decode cX6_clash 41 = .ok (.invokevirtual 137, 3) := by decide +kernel
theorem dX6_clash_44 : decode cX6_clash 44 = .ok (.aload_n 0, 1) := by decide +kernel
theorem dX6_clash_45 : decode cX6_clash 45 = .ok (.getfield 62, 3) := by decide +kernel
theorem dX6_clash_48 : decode cX6_clash 48 = .ok (.getfield 219, 3) := by decide +kernel
theorem dX6_clash_51 : decode cX6_clash 51 = .ok (.ireturn, 1) := by decide +kernel
theorem dX6_first_0 : decode cX6_first 0 = .ok (.aload_n 0, 1) := by decide +kernel
theorem dX6_first_1 : decode cX6_first 1 = .ok (.iload_n 1, 1) := by decide +kernel
theorem dX6_first_2 : decode cX6_first 2 = .ok (.invokevirtual 94, 3) := by decide +kernel
theorem dX6_first_5 : decode cX6_first 5 = .ok (.ifnull 19, 3) := by decide +kernel
theorem dX6_first_8 : decode cX6_first 8 = .ok (.iload_n 2, 1) := by decide +kernel
theorem dX6_first_9 : decode cX6_first 9 = .ok (.bipush 16, 2) := by decide +kernel
theorem dX6_first_11 : decode cX6_first 11 = .ok (.invokestatic 66, 3) := by decide +kernel
theorem dX6_first_14 : decode cX6_first 14 = .ok (.ifCond .eq 10, 3) := by decide +kernel
theorem dX6_first_17 : decode cX6_first 17 = .ok (.iload_n 3, 1) := by decide +kernel
theorem dX6_first_18 : decode cX6_first 18 = .ok (.invokestatic 112, 3) := by decide +kernel
theorem dX6_first_21 : decode cX6_first 21 = .ok (.ifCond .ne 5, 3) := by decide +kernel
theorem dX6_first_24 : decode cX6_first 24 = .ok (.iconst (-1), 1) := by decide +kernel
theorem dX6_first_25 : decode cX6_first 25 = .ok (.ireturn, 1) := by decide +kernel
theorem dX6_first_26 : decode cX6_first 26 = .ok (.iconst (-1), 1) := by decide +kernel
theorem dX6_first_27 : decode cX6_first 27 = .ok (.istore 4, 2) := by decide +kernel
theorem dX6_first_29 : decode cX6_first 29 = .ok (.iconst (-1), 1) := by decide +kernel
theorem dX6_first_30 : decode cX6_first 30 = .ok (.istore 5, 2) := by decide +kernel
theorem dX6_first_32 : decode cX6_first 32 = .ok (.iconst 0, 1) := by decide +kernel
theorem dX6_first_33 : decode cX6_first 33 = .ok (.istore 6, 2) := by decide +kernel
theorem dX6_first_35 : decode cX6_first 35 = .ok (.iload 6, 2) := by decide +kernel
theorem dX6_first_37 : decode cX6_first 37 = .ok (.aload_n 0, 1) := by decide +kernel
theorem dX6_first_38 : decode cX6_first 38 = .ok (.getfield 36, 3) := by decide +kernel
theorem dX6_first_41 : decode cX6_first 41 = .ok (.if_icmp .ge 59, 3) := by decide +kernel
theorem dX6_first_44 : decode cX6_first 44 = .ok (.aload_n 0, 1) := by decide +kernel
theorem dX6_first_45 : decode cX6_first 45 = .ok (.iload 6, 2) := by decide +kernel
theorem dX6_first_47 : decode cX6_first 47 = .ok (.iload_n 1, 1) := by decide +kernel
theorem dX6_first_48 : decode cX6_first 48 = .ok (.iload_n 2, 1) := by decide +kernel
theorem dX6_first_49 : decode cX6_first 49 = .ok (.iload_n 3, 1) := by decide +kernel
theorem dX6_first_50 : decode cX6_first 50 = .ok (.invokevirtual 137, 3) := by decide +kernel
theorem dX6_first_53 : decode cX6_first 53 = .ok (.aload_n 0, 1) := by decide +kernel
theorem dX6_first_54 : decode cX6_first 54 = .ok (.getfield 62, 3) := by decide +kernel
theorem dX6_first_57 : decode cX6_first 57 = .ok (.invokevirtual 141, 3) := by decide +kernel
theorem dX6_first_60 : decode cX6_first 60 = .ok (.ifCond .eq 34, 3) := by decide +kernel
theorem dX6_first_63 : decode cX6_first 63 = .ok (.iload 4, 2) := by decide +kernel
theorem dX6_first_65 : decode cX6_first 65 = .ok (.iconst (-1), 1) := by decide +kernel
theorem dX6_first_66 : decode cX6_first 66 = .ok (.if_icmp .eq 15, 3) := by decide +kernel
theorem dX6_first_69 : decode cX6_first 69 = .ok (.aload_n 0, 1) := by decide +kernel
theorem dX6_first_70 : decode cX6_first 70 = .ok (.getfield 62, 3) := by decide +kernel
theorem dX6_first_73 : decode cX6_first 73 = .ok (.getfield 222, 3) := by decide +kernel
theorem dX6_first_76 : decode cX6_first 76 = .ok (.iload 5, 2) := by decide +kernel
theorem dX6_first_78 : decode cX6_first 78 = .ok (.if_icmp .ge 16, 3) := by decide +kernel
theorem dX6_first_81 : decode cX6_first 81 = .ok (.iload 6, 2) := by decide +kernel
theorem dX6_first_83 : decode cX6_first 83 = .ok (.istore 4, 2) := by decide +kernel
theorem dX6_first_85 : decode cX6_first 85 = .ok (.aload_n 0, 1) := by decide +kernel
theorem dX6_first_86 : decode cX6_first 86 = .ok (.getfield 62, 3) := by decide +kernel
theorem dX6_first_89 : decode cX6_first 89 = .ok (.getfield 222, 3) := by decide +kernel
theorem dX6_first_92 : decode cX6_first 92 = .ok (.istore 5, 2) := by decide +kernel
theorem dX6_first_94 : decode cX6_first 94 = .ok (.iinc 6 1, 3) := by decide +kernel
theorem dX6_first_97 : decode cX6_first 97 = .ok (.goto (-62), 3) := by decide +kernel
theorem dX6_first_100 : decode cX6_first 100 = .ok (.iload 4, 2) := by decide +kernel
theorem dX6_first_102 : decode cX6_first 102 = .ok (.ireturn, 1) := by decide +kernel
theorem dX6_may_0 : decode cX6_may 0 = .ok (.iload_n 1, 1) := by decide +kernel
theorem dX6_may_1 : decode cX6_may 1 = .ok (.bipush 100, 2) := by decide +kernel
theorem dX6_may_3 : decode cX6_may 3 = .ok (.invokestatic 66, 3) := by decide +kernel
theorem dX6_may_6 : decode cX6_may 6 = .ok (.ifCond .eq 39, 3) := by decide +kernel
theorem dX6_may_9 : decode cX6_may 9 = .ok (.aload_n 0, 1) := by decide +kernel
theorem dX6_may_10 : decode cX6_may 10 = .ok (.iload_n 2, 1) := by decide +kernel
theorem dX6_may_11 : decode cX6_may 11 = .ok (.invokevirtual 94, 3) := by decide +kernel
theorem dX6_may_14 : decode cX6_may 14 = .ok (.ifnull 31, 3) := by decide +kernel
theorem dX6_may_17 : decode cX6_may 17 = .ok (.iload_n 3, 1) := by decide +kernel
theorem dX6_may_18 : decode cX6_may 18 = .ok (.sipush 360, 3) := by decide +kernel
theorem dX6_may_21 : decode cX6_may 21 = .ok (.invokestatic 66, 3) := by decide +kernel
theorem dX6_may_24 : decode cX6_may 24 = .ok (.ifCond .eq 21, 3) := by decide +kernel
theorem dX6_may_27 : decode cX6_may 27 = .ok (.iload 4, 2) := by decide +kernel
theorem dX6_may_29 : decode cX6_may 29 = .ok (.bipush 16, 2) := by decide +kernel
theorem dX6_may_31 : decode cX6_may 31 = .ok (.invokestatic 66, 3) := by decide +kernel
theorem dX6_may_34 : decode cX6_may 34 = .ok (.ifCond .eq 11, 3) := by decide +kernel
theorem dX6_may_37 : decode cX6_may 37 = .ok (.iload 5, 2) := by decide +kernel
theorem dX6_may_39 : decode cX6_may 39 = .ok (.invokestatic 112, 3) := by decide +kernel
theorem dX6_may_42 : decode cX6_may 42 = .ok (.ifCond .ne 5, 3) := by decide +kernel
theorem dX6_may_45 : decode cX6_may 45 = .ok (.iconst (-1), 1) := by decide +kernel
theorem dX6_may_46 : decode cX6_may 46 = .ok (.ireturn, 1) := by decide +kernel
theorem dX6_may_47 : decode cX6_may 47 = .ok (.iconst 0, 1) := by decide +kernel
theorem dX6_may_48 : decode cX6_may 48 = .ok (.istore 6, 2) := by decide +kernel
theorem dX6_may_50 : decode cX6_may 50 = .ok (.iconst (-1), 1) := by decide +kernel
theorem dX6_may_51 : decode cX6_may 51 = .ok (.istore 7, 2) := by decide +kernel
theorem dX6_may_53 : decode cX6_may 53 = .ok (.iconst (-1), 1) := by decide +kernel
theorem dX6_may_54 : decode cX6_may 54 = .ok (.istore 8, 2) := by decide +kernel
theorem dX6_may_56 : decode cX6_may 56 = .ok (.iconst 0, 1) := by decide +kernel
theorem dX6_may_57 : decode cX6_may 57 = .ok (.istore 9, 2) := by decide +kernel
theorem dX6_may_59 : decode cX6_may 59 = .ok (.iload 9, 2) := by decide +kernel
theorem dX6_may_61 : decode cX6_may 61 = .ok (.aload_n 0, 1) := by decide +kernel
theorem dX6_may_62 : decode cX6_may 62 = .ok (.getfield 36, 3) := by decide +kernel
theorem dX6_may_65 : decode cX6_may 65 = .ok (.if_icmp .ge 114, 3) := by decide +kernel
theorem dX6_may_68 : decode cX6_may 68 = .ok (.aload_n 0, 1) := by decide +kernel
theorem dX6_may_69 : decode cX6_may 69 = .ok (.getfield 49, 3) := by decide +kernel
theorem dX6_may_72 : decode cX6_may 72 = .ok (.aload_n 0, 1) := by decide +kernel
theorem dX6_may_73 : decode cX6_may 73 = .ok (.getfield 32, 3) := by decide +kernel
theorem dX6_may_76 : decode cX6_may 76 = .ok (.iload 9, 2) := by decide +kernel
theorem dX6_may_78 : decode cX6_may 78 = .ok (.iload 4, 2) := by decide +kernel
theorem dX6_may_80 : decode cX6_may 80 = .ok (.iload 5, 2) := by decide +kernel
theorem dX6_may_82 : decode cX6_may 82 = .ok (.invokevirtual 118, 3) := by decide +kernel
theorem dX6_may_85 : decode cX6_may 85 = .ok (.aload_n 0, 1) := by decide +kernel
theorem dX6_may_86 : decode cX6_may 86 = .ok (.iload_n 3, 1) := by decide +kernel
theorem dX6_may_87 : decode cX6_may 87 = .ok (.invokevirtual 225, 3) := by decide +kernel
theorem dX6_may_90 : decode cX6_may 90 = .ok (.istore 10, 2) := by decide +kernel
theorem dX6_may_92 : decode cX6_may 92 = .ok (.iload 10, 2) := by decide +kernel
theorem dX6_may_94 : decode cX6_may 94 = .ok (.iconst (-1), 1) := by decide +kernel
theorem dX6_may_95 : decode cX6_may 95 = .ok (.if_icmp .eq 78, 3) := by decide +kernel
theorem dX6_may_98 : decode cX6_may 98 = .ok (.iload 9, 2) := by decide +kernel
theorem dX6_may_100 : decode cX6_may 100 = .ok (.iload_n 2, 1) := by decide +kernel
theorem dX6_may_101 : decode cX6_may 101 = .ok (.if_icmp .eq 16, 3) := by decide +kernel
theorem dX6_may_104 : decode cX6_may 104 = .ok (.aload_n 0, 1) := by decide +kernel
theorem dX6_may_105 : decode cX6_may 105 = .ok (.iload 9, 2) := by decide +kernel
theorem dX6_may_107 : decode cX6_may 107 = .ok (.iload_n 2, 1) := by decide +kernel
theorem dX6_may_108 : decode cX6_may 108 = .ok (.invokevirtual 228, 3) := by decide +kernel
theorem dX6_may_111 : decode cX6_may 111 = .ok (.ifCond .ne 6, 3) := by decide +kernel
theorem dX6_may_114 : decode cX6_may 114 = .ok (.goto 59, 3) := by decide +kernel
theorem dX6_may_117 : decode cX6_may 117 = .ok (.aload_n 0, 1) := by decide +kernel
theorem dX6_may_118 : decode cX6_may 118 = .ok (.iload_n 1, 1) := by decide +kernel
theorem dX6_may_119 : decode cX6_may 119 = .ok (.iload 9, 2) := by decide +kernel
theorem dX6_may_121 : decode cX6_may 121 = .ok (.iload 5, 2) := by decide +kernel
theorem dX6_may_123 : decode cX6_may 123 = .ok (.invokevirtual 231, 3) := by decide +kernel
theorem dX6_may_126 : decode cX6_may 126 = .ok (.istore 11, 2) := by decide +kernel
theorem dX6_may_128 : decode cX6_may 128 = .ok (.iload 11, 2) := by decide +kernel
theorem dX6_may_130 : decode cX6_may 130 = .ok (.ifCond .ne 27, 3) := by decide +kernel
theorem dX6_may_133 : decode cX6_may 133 = .ok (.iload 7, 2) := by decide +kernel
theorem dX6_may_135 : decode cX6_may 135 = .ok (.iconst (-1), 1) := by decide +kernel
theorem dX6_may_136 : decode cX6_may 136 = .ok (.if_icmp .eq 10, 3) := by decide +kernel
theorem dX6_may_139 : decode cX6_may 139 = .ok (.iload 10, 2) := by decide +kernel
theorem dX6_may_141 : decode cX6_may 141 = .ok (.iload 8, 2) := by decide +kernel
theorem dX6_may_143 : decode cX6_may 143 = .ok (.if_icmp .ge 30, 3) := by decide +kernel
theorem dX6_may_146 : decode cX6_may 146 = .ok (.iload 9, 2) := by decide +kernel
theorem dX6_may_148 : decode cX6_may 148 = .ok (.istore 7, 2) := by decide +kernel
theorem dX6_may_150 : decode cX6_may 150 = .ok (.iload 10, 2) := by decide +kernel
theorem dX6_may_152 : decode cX6_may 152 = .ok (.istore 8, 2) := by decide +kernel
theorem dX6_may_154 : decode cX6_may 154 = .ok (.goto 19, 3) := by decide +kernel
theorem dX6_may_157 : decode cX6_may 157 = .ok (.iload 6, 2) := by decide +kernel
theorem dX6_may_159 : decode cX6_may 159 = .ok (.ifCond .eq 10, 3) := by decide +kernel
theorem dX6_may_162 : decode cX6_may 162 = .ok (.iload 11, 2) := by decide +kernel
theorem dX6_may_164 : decode cX6_may 164 = .ok (.iload 6, 2) := by decide +kernel
theorem dX6_may_166 : decode cX6_may 166 = .ok (.if_icmp .ge 7, 3) := by decide +kernel
theorem dX6_may_169 : decode cX6_may 169 = .ok (.iload 11, 2) := by decide +kernel
theorem dX6_may_171 : decode cX6_may 171 = .ok (.istore 6, 2) := by decide +kernel
theorem dX6_may_173 : decode cX6_may 173 = .ok (.iinc 9 1, 3) := by decide +kernel
theorem dX6_may_176 : decode cX6_may 176 = .ok (.goto (-117), 3) := by decide +kernel
theorem dX6_may_179 : decode cX6_may 179 = .ok (.iload 7, 2) := by decide +kernel
theorem dX6_may_181 : decode cX6_may 181 = .ok (.iconst (-1), 1) := by decide +kernel
theorem dX6_may_182 : decode cX6_may 182 = .ok (.if_icmp .ne 8, 3) := by decide +kernel
theorem dX6_may_185 : decode cX6_may 185 = .ok (.iload 6, 2) := by decide +kernel
theorem dX6_may_187 : decode cX6_may 187 = .ok (.goto 8, 3) := by decide +kernel
theorem dX6_may_190 : decode cX6_may 190 = .ok (.bipush 10, 2) := by decide +kernel
theorem dX6_may_192 : decode cX6_may 192 = .ok (.iload 7, 2) := by decide +kernel
theorem dX6_may_194 : decode cX6_may 194 = .ok (.iadd, 1) := by decide +kernel
theorem dX6_may_195 : decode cX6_may 195 = .ok (.ireturn, 1) := by decide +kernel
theorem dX6_watch_0 : decode cX6_watch 0 = .ok (.aload_n 0, 1) := by decide +kernel
theorem dX6_watch_1 : decode cX6_watch 1 = .ok (.getfield 32, 3) := by decide +kernel
theorem dX6_watch_4 : decode cX6_watch 4 = .ok (.iconst 1, 1) := by decide +kernel
theorem dX6_watch_5 : decode cX6_watch 5 = .ok (.invokevirtual 235, 3) := by decide +kernel
theorem dX6_watch_8 : decode cX6_watch 8 = .ok (.istore_n 2, 1) := by decide +kernel
theorem dX6_watch_9 : decode cX6_watch 9 = .ok (.iload_n 1, 1) := by decide +kernel
theorem dX6_watch_10 : decode cX6_watch 10 = .ok (.ifCond .lt 16, 3) := by decide +kernel
theorem dX6_watch_13 : decode cX6_watch 13 = .ok (.iload_n 1, 1) := by decide +kernel
theorem dX6_watch_14 : decode cX6_watch 14 = .ok (.aload_n 0, 1) := by decide +kernel
theorem dX6_watch_15 : decode cX6_watch 15 = .ok (.getfield 36, 3) := by decide +kernel
theorem dX6_watch_18 : decode cX6_watch 18 = .ok (.if_icmp .ge 8, 3) := by decide +kernel
theorem dX6_watch_21 : decode cX6_watch 21 = .ok (.iload_n 2, 1) := by decide +kernel
theorem dX6_watch_22 : decode cX6_watch 22 = .ok (.iconst (-1), 1) := by decide +kernel
theorem dX6_watch_23 : decode cX6_watch 23 = .ok (.if_icmp .ne 5, 3) := by decide +kernel
theorem dX6_watch_26 : decode cX6_watch 26 = .ok (.iconst (-1), 1) := by decide +kernel
theorem dX6_watch_27 : decode cX6_watch 27 = .ok (.ireturn, 1) := by decide +kernel
theorem dX6_watch_28 : decode cX6_watch 28 = .ok (.aload_n 0, 1) := by decide +kernel
theorem dX6_watch_29 : decode cX6_watch 29 = .ok (.getfield 32, 3) := by decide +kernel
theorem dX6_watch_32 : decode cX6_watch 32 = .ok (.getfield 158, 3) := by decide +kernel
theorem dX6_watch_35 : decode cX6_watch 35 = .ok (.iload_n 2, 1) := by decide +kernel
theorem dX6_watch_36 : decode cX6_watch 36 = .ok (.iaload, 1) := by decide +kernel
theorem dX6_watch_37 : decode cX6_watch 37 = .ok (.istore_n 3, 1) := by decide +kernel
theorem dX6_watch_38 : decode cX6_watch 38 = .ok (.aload_n 0, 1) := by decide +kernel
theorem dX6_watch_39 : decode cX6_watch 39 = .ok (.getfield 32, 3) := by decide +kernel
theorem dX6_watch_42 : decode cX6_watch 42 = .ok (.getfield 160, 3) := by decide +kernel
theorem dX6_watch_45 : decode cX6_watch 45 = .ok (.iload_n 2, 1) := by decide +kernel
theorem dX6_watch_46 : decode cX6_watch 46 = .ok (.iaload, 1) := by decide +kernel
theorem dX6_watch_47 : decode cX6_watch 47 = .ok (.istore 4, 2) := by decide +kernel
theorem dX6_watch_49 : decode cX6_watch 49 = .ok (.aload_n 0, 1) := by decide +kernel
theorem dX6_watch_50 : decode cX6_watch 50 = .ok (.getfield 32, 3) := by decide +kernel
theorem dX6_watch_53 : decode cX6_watch 53 = .ok (.getfield 163, 3) := by decide +kernel
theorem dX6_watch_56 : decode cX6_watch 56 = .ok (.iload_n 2, 1) := by decide +kernel
theorem dX6_watch_57 : decode cX6_watch 57 = .ok (.iaload, 1) := by decide +kernel
theorem dX6_watch_58 : decode cX6_watch 58 = .ok (.istore 5, 2) := by decide +kernel
theorem dX6_watch_60 : decode cX6_watch 60 = .ok (.aload_n 0, 1) := by decide +kernel
theorem dX6_watch_61 : decode cX6_watch 61 = .ok (.getfield 53, 3) := by decide +kernel
theorem dX6_watch_64 : decode cX6_watch 64 = .ok (.aload_n 0, 1) := by decide +kernel
theorem dX6_watch_65 : decode cX6_watch 65 = .ok (.getfield 32, 3) := by decide +kernel
theorem dX6_watch_68 : decode cX6_watch 68 = .ok (.iload_n 3, 1) := by decide +kernel
theorem dX6_watch_69 : decode cX6_watch 69 = .ok (.iload 4, 2) := by decide +kernel
theorem dX6_watch_71 : decode cX6_watch 71 = .ok (.iload 5, 2) := by decide +kernel
theorem dX6_watch_73 : decode cX6_watch 73 = .ok (.invokevirtual 118, 3) := by decide +kernel
theorem dX6_watch_76 : decode cX6_watch 76 = .ok (.iload_n 1, 1) := by decide +kernel
theorem dX6_watch_77 : decode cX6_watch 77 = .ok (.istore 6, 2) := by decide +kernel
theorem dX6_watch_79 : decode cX6_watch 79 = .ok (.iconst 0, 1) := by decide +kernel
theorem dX6_watch_80 : decode cX6_watch 80 = .ok (.istore 7, 2) := by decide +kernel
theorem dX6_watch_82 : decode cX6_watch 82 = .ok (.iload 7, 2) := by decide +kernel
theorem dX6_watch_84 : decode cX6_watch 84 = .ok (.aload_n 0, 1) := by decide +kernel
theorem dX6_watch_85 : decode cX6_watch 85 = .ok (.getfield 36, 3) := by decide +kernel
theorem dX6_watch_88 : decode cX6_watch 88 = .ok (.if_icmp .ge 67, 3) := by decide +kernel
theorem dX6_watch_91 : decode cX6_watch 91 = .ok (.aload_n 0, 1) := by decide +kernel
theorem dX6_watch_92 : decode cX6_watch 92 = .ok (.iload 7, 2) := by decide +kernel
theorem dX6_watch_94 : decode cX6_watch 94 = .ok (.iload_n 3, 1) := by decide +kernel
theorem dX6_watch_95 : decode cX6_watch 95 = .ok (.invokevirtual 238, 3) := by decide +kernel
theorem dX6_watch_98 : decode cX6_watch 98 = .ok (.ifCond .eq 6, 3) := by decide +kernel
theorem dX6_watch_101 : decode cX6_watch 101 = .ok (.goto 48, 3) := by decide +kernel
theorem dX6_watch_104 : decode cX6_watch 104 = .ok (.aload_n 0, 1) := by decide +kernel
theorem dX6_watch_105 : decode cX6_watch 105 = .ok (.getfield 49, 3) := by decide +kernel
theorem dX6_watch_108 : decode cX6_watch 108 = .ok (.aload_n 0, 1) := by decide +kernel
theorem dX6_watch_109 : decode cX6_watch 109 = .ok (.getfield 32, 3) := by decide +kernel
theorem dX6_watch_112 : decode cX6_watch 112 = .ok (.iload 7, 2) := by decide +kernel
theorem dX6_watch_114 : decode cX6_watch 114 = .ok (.iload 4, 2) := by decide +kernel
theorem dX6_watch_116 : decode cX6_watch 116 = .ok (.iload 5, 2) := by decide +kernel
theorem dX6_watch_118 : decode cX6_watch 118 = .ok (.invokevirtual 118, 3) := by decide +kernel
theorem dX6_watch_121 : decode cX6_watch 121 = .ok (.aload_n 0, 1) := by decide +kernel
theorem dX6_watch_122 : decode cX6_watch 122 = .ok (.invokevirtual 241, 3) := by decide +kernel
theorem dX6_watch_125 : decode cX6_watch 125 = .ok (.ifCond .eq 24, 3) := by decide +kernel
theorem dX6_watch_128 : decode cX6_watch 128 = .ok (.aload_n 0, 1) := by decide +kernel
theorem dX6_watch_129 : decode cX6_watch 129 = .ok (.iload 7, 2) := by decide +kernel
theorem dX6_watch_131 : decode cX6_watch 131 = .ok (.iload_n 3, 1) := by decide +kernel
theorem dX6_watch_132 : decode cX6_watch 132 = .ok (.invokevirtual 228, 3) := by decide +kernel
theorem dX6_watch_135 : decode cX6_watch 135 = .ok (.ifCond .eq 14, 3) := by decide +kernel
theorem dX6_watch_138 : decode cX6_watch 138 = .ok (.iload 6, 2) := by decide +kernel
theorem dX6_watch_140 : decode cX6_watch 140 = .ok (.ifCond .ne 6, 3) := by decide +kernel
theorem dX6_watch_143 : decode cX6_watch 143 = .ok (.iload 7, 2) := by decide +kernel
theorem dX6_watch_145 : decode cX6_watch 145 = .ok (.ireturn, 1) := by decide +kernel
theorem dX6_watch_146 : decode cX6_watch 146 = .ok (.iinc 6 (-1), 3) := by decide +kernel
theorem dX6_watch_149 : decode cX6_watch 149 = .ok (.iinc 7 1, 3) := by decide +kernel
theorem dX6_watch_152 : decode cX6_watch 152 = .ok (.goto (-70), 3) := by decide +kernel
theorem dX6_watch_155 : decode cX6_watch 155 = .ok (.iconst (-1), 1) := by decide +kernel
theorem dX6_watch_156 : decode cX6_watch 156 = .ok (.ireturn, 1) := by decide +kernel
theorem dX6_about_0 : decode cX6_about 0 = .ok (.iload_n 1, 1) := by decide +kernel
theorem dX6_about_1 : decode cX6_about 1 = .ok (.tableswitch 78 0 5 #[39, 44, 52, 60, 68, 73], 39) := by decide +kernel
theorem dX6_about_40 : decode cX6_about 40 = .ok (.aload_n 0, 1) := by decide +kernel
theorem dX6_about_41 : decode cX6_about 41 = .ok (.getfield 36, 3) := by decide +kernel
theorem dX6_about_44 : decode cX6_about 44 = .ok (.ireturn, 1) := by decide +kernel
theorem dX6_about_45 : decode cX6_about 45 = .ok (.aload_n 0, 1) := by decide +kernel
theorem dX6_about_46 : decode cX6_about 46 = .ok (.getfield 32, 3) := by decide +kernel
theorem dX6_about_49 : decode cX6_about 49 = .ok (.getfield 151, 3) := by decide +kernel
theorem dX6_about_52 : decode cX6_about 52 = .ok (.ireturn, 1) := by decide +kernel
theorem dX6_about_53 : decode cX6_about 53 = .ok (.aload_n 0, 1) := by decide +kernel
theorem dX6_about_54 : decode cX6_about 54 = .ok (.getfield 32, 3) := by decide +kernel
theorem dX6_about_57 : decode cX6_about 57 = .ok (.invokevirtual 244, 3) := by decide +kernel
theorem dX6_about_60 : decode cX6_about 60 = .ok (.ireturn, 1) := by decide +kernel
theorem dX6_about_61 : decode cX6_about 61 = .ok (.aload_n 0, 1) := by decide +kernel
theorem dX6_about_62 : decode cX6_about 62 = .ok (.getfield 19, 3) := by decide +kernel
theorem dX6_about_65 : decode cX6_about 65 = .ok (.getfield 247, 3) := by decide +kernel
theorem dX6_about_68 : decode cX6_about 68 = .ok (.ireturn, 1) := by decide +kernel
theorem dX6_about_69 : decode cX6_about 69 = .ok (.aload_n 0, 1) := by decide +kernel
theorem dX6_about_70 : decode cX6_about 70 = .ok (.getfield 40, 3) := by decide +kernel
theorem dX6_about_73 : decode cX6_about 73 = .ok (.ireturn, 1) := by decide +kernel
theorem dX6_about_74 : decode cX6_about 74 = .ok (.aload_n 0, 1) := by decide +kernel
theorem dX6_about_75 : decode cX6_about 75 = .ok (.getfield 43, 3) := by decide +kernel
theorem dX6_about_78 : decode cX6_about 78 = .ok (.ireturn, 1) := by decide +kernel
theorem dX6_about_79 : decode cX6_about 79 = .ok (.iconst (-1), 1) := by decide +kernel
theorem dX6_about_80 : decode cX6_about 80 = .ok (.ireturn, 1) := by decide +kernel
theorem dX6_below_0 : decode cX6_below 0 = .ok (.iload_n 0, 1) := by decide +kernel
theorem dX6_below_1 : decode cX6_below 1 = .ok (.ifCond .lt 12, 3) := by decide +kernel
theorem dX6_below_4 : decode cX6_below 4 = .ok (.iload_n 0, 1) := by decide +kernel
theorem dX6_below_5 : decode cX6_below 5 = .ok (.iload_n 1, 1) := by decide +kernel
theorem dX6_below_6 : decode cX6_below 6 = .ok (.if_icmp .ge 7, 3) := by decide +kernel
theorem dX6_below_9 : decode cX6_below 9 = .ok (.iconst 1, 1) := by decide +kernel
theorem dX6_below_10 : decode cX6_below 10 = .ok (.goto 4, 3) := by decide +kernel
theorem dX6_below_13 : decode cX6_below 13 = .ok (.iconst 0, 1) := by decide +kernel
theorem dX6_below_14 : decode cX6_below 14 = .ok (.ireturn, 1) := by decide +kernel
theorem dX6_isDay_0 : decode cX6_isDay 0 = .ok (.iload_n 0, 1) := by decide +kernel
theorem dX6_isDay_1 : decode cX6_isDay 1 = .ok (.ifCond .lt 13, 3) := by decide +kernel
theorem dX6_isDay_4 : decode cX6_isDay 4 = .ok (.iload_n 0, 1) := by decide +kernel
theorem dX6_isDay_5 : decode cX6_isDay 5 = .ok (.ldc 248, 2) := by decide +kernel
theorem dX6_isDay_7 : decode cX6_isDay 7 = .ok (.if_icmp .gt 7, 3) := by decide +kernel
theorem dX6_isDay_10 : decode cX6_isDay 10 = .ok (.iconst 1, 1) := by decide +kernel
theorem dX6_isDay_11 : decode cX6_isDay 11 = .ok (.goto 4, 3) := by decide +kernel
theorem dX6_isDay_14 : decode cX6_isDay 14 = .ok (.iconst 0, 1) := by decide +kernel
theorem dX6_isDay_15 : decode cX6_isDay 15 = .ok (.ireturn, 1) := by decide +kernel
theorem dX6_markAt_0 : decode cX6_markAt 0 = .ok (.iload_n 1, 1) := by decide +kernel
theorem dX6_markAt_1 : decode cX6_markAt 1 = .ok (.aload_n 0, 1) := by decide +kernel
theorem dX6_markAt_2 : decode cX6_markAt 2 = .ok (.getfield 36, 3) := by decide +kernel
theorem dX6_markAt_5 : decode cX6_markAt 5 = .ok (.invokestatic 66, 3) := by decide +kernel
theorem dX6_markAt_8 : decode cX6_markAt 8 = .ok (.ifCond .eq 12, 3) := by decide +kernel
theorem dX6_markAt_11 : decode cX6_markAt 11 = .ok (.aload_n 0, 1) := by decide +kernel
theorem dX6_markAt_12 : decode cX6_markAt 12 = .ok (.getfield 25, 3) := by decide +kernel
theorem dX6_markAt_15 : decode cX6_markAt 15 = .ok (.iload_n 1, 1) := by decide +kernel
theorem dX6_markAt_16 : decode cX6_markAt 16 = .ok (.aaload, 1) := by decide +kernel
theorem dX6_markAt_17 : decode cX6_markAt 17 = .ok (.goto 4, 3) := by decide +kernel
theorem dX6_markAt_20 : decode cX6_markAt 20 = .ok (.aconst_null, 1) := by decide +kernel
theorem dX6_markAt_21 : decode cX6_markAt 21 = .ok (.areturn, 1) := by decide +kernel
theorem dX6_boundOfX_0 : decode cX6_boundOfX 0 = .ok (.iload_n 0, 1) := by decide +kernel
theorem dX6_boundOfX_1 : decode cX6_boundOfX 1 = .ok (.tableswitch 63 0 8 #[51, 55, 61, 51, 61, 58, 51, 61, 58], 51) := by decide +kernel
theorem dX6_boundOfX_52 : decode cX6_boundOfX 52 = .ok (.sipush 360, 3) := by decide +kernel
theorem dX6_boundOfX_55 : decode cX6_boundOfX 55 = .ok (.ireturn, 1) := by decide +kernel
theorem dX6_boundOfX_56 : decode cX6_boundOfX 56 = .ok (.bipush 16, 2) := by decide +kernel
theorem dX6_boundOfX_58 : decode cX6_boundOfX 58 = .ok (.ireturn, 1) := by decide +kernel
theorem dX6_boundOfX_59 : decode cX6_boundOfX 59 = .ok (.bipush 100, 2) := by decide +kernel
theorem dX6_boundOfX_61 : decode cX6_boundOfX 61 = .ok (.ireturn, 1) := by decide +kernel
theorem dX6_boundOfX_62 : decode cX6_boundOfX 62 = .ok (.iconst 1, 1) := by decide +kernel
theorem dX6_boundOfX_63 : decode cX6_boundOfX 63 = .ok (.ireturn, 1) := by decide +kernel
theorem dX6_boundOfX_64 : decode cX6_boundOfX 64 = .ok (.iconst 0, 1) := by decide +kernel
theorem dX6_boundOfX_65 : decode cX6_boundOfX 65 = .ok (.ireturn, 1) := by decide +kernel
theorem dX6_canBe_0 : decode cX6_canBe 0 = .ok (.iload_n 1, 1) := by decide +kernel
theorem dX6_canBe_1 : decode cX6_canBe 1 = .ok (.ifCond .eq 20, 3) := by decide +kernel
theorem dX6_canBe_4 : decode cX6_canBe 4 = .ok (.iload_n 1, 1) := by decide +kernel
theorem dX6_canBe_5 : decode cX6_canBe 5 = .ok (.iconst 1, 1) := by decide +kernel
theorem dX6_canBe_6 : decode cX6_canBe 6 = .ok (.if_icmp .eq 15, 3) := by decide +kernel
theorem dX6_canBe_9 : decode cX6_canBe 9 = .ok (.aload_n 0, 1) := by decide +kernel
theorem dX6_canBe_10 : decode cX6_canBe 10 = .ok (.getfield 49, 3) := by decide +kernel
theorem dX6_canBe_13 : decode cX6_canBe 13 = .ok (.invokevirtual 130, 3) := by decide +kernel
theorem dX6_canBe_16 : decode cX6_canBe 16 = .ok (.ifCond .ne 5, 3) := by decide +kernel
theorem dX6_canBe_19 : decode cX6_canBe 19 = .ok (.iconst 0, 1) := by decide +kernel
theorem dX6_canBe_20 : decode cX6_canBe 20 = .ok (.ireturn, 1) := by decide +kernel
theorem dX6_canBe_21 : decode cX6_canBe 21 = .ok (.iload_n 1, 1) := by decide +kernel
theorem dX6_canBe_22 : decode cX6_canBe 22 = .ok (.tableswitch 220 0 8 #[50, 79, 110, 118, 127, 143, 118, 164, 189], 50) := by decide +kernel
theorem dX6_canBe_72 : decode cX6_canBe 72 = .ok (.aload_n 0, 1) := by decide +kernel
theorem dX6_canBe_73 : decode cX6_canBe 73 = .ok (.getfield 49, 3) := by decide +kernel
theorem dX6_canBe_76 : decode cX6_canBe 76 = .ok (.getfield 215, 3) := by decide +kernel
theorem dX6_canBe_79 : decode cX6_canBe 79 = .ok (.bipush 20, 2) := by decide +kernel
theorem dX6_canBe_81 : decode cX6_canBe 81 = .ok (.if_icmp .ge 18, 3) := by decide +kernel
theorem dX6_canBe_84 : decode cX6_canBe 84 = .ok (.aload_n 0, 1) := by decide +kernel
theorem dX6_canBe_85 : decode cX6_canBe 85 = .ok (.getfield 49, 3) := by decide +kernel
theorem dX6_canBe_88 : decode cX6_canBe 88 = .ok (.iload_n 3, 1) := by decide +kernel
theorem dX6_canBe_89 : decode cX6_canBe 89 = .ok (.invokevirtual 249, 3) := by decide +kernel
theorem dX6_canBe_92 : decode cX6_canBe 92 = .ok (.ifCond .ne 7, 3) := by decide +kernel
theorem dX6_canBe_95 : decode cX6_canBe 95 = .ok (.iconst 1, 1) := by decide +kernel
theorem dX6_canBe_96 : decode cX6_canBe 96 = .ok (.goto 4, 3) := by decide +kernel
theorem dX6_canBe_99 : decode cX6_canBe 99 = .ok (.iconst 0, 1) := by decide +kernel
theorem dX6_canBe_100 : decode cX6_canBe 100 = .ok (.ireturn, 1) := by decide +kernel
theorem dX6_canBe_101 : decode cX6_canBe 101 = .ok (.aload_n 0, 1) := by decide +kernel
theorem dX6_canBe_102 : decode cX6_canBe 102 = .ok (.getfield 49, 3) := by decide +kernel
theorem dX6_canBe_105 : decode cX6_canBe 105 = .ok (.getfield 252, 3) := by decide +kernel
theorem dX6_canBe_108 : decode cX6_canBe 108 = .ok (.ifCond .eq 22, 3) := by decide +kernel
theorem dX6_canBe_111 : decode cX6_canBe 111 = .ok (.aload_n 0, 1) := by decide +kernel
theorem dX6_canBe_112 : decode cX6_canBe 112 = .ok (.getfield 32, 3) := by decide +kernel
theorem dX6_canBe_115 : decode cX6_canBe 115 = .ok (.iconst 1, 1) := by decide +kernel
theorem dX6_canBe_116 : decode cX6_canBe 116 = .ok (.iload_n 2, 1) := by decide +kernel
theorem dX6_canBe_117 : decode cX6_canBe 117 = .ok (.iload_n 3, 1) := by decide +kernel
theorem dX6_canBe_118 : decode cX6_canBe 118 = .ok (.iload 4, 2) := by decide +kernel
theorem dX6_canBe_120 : decode cX6_canBe 120 = .ok (.invokevirtual 255, 3) := by decide +kernel
theorem dX6_canBe_123 : decode cX6_canBe 123 = .ok (.ifCond .ne 7, 3) := by decide +kernel
theorem dX6_canBe_126 : decode cX6_canBe 126 = .ok (.iconst 1, 1) := by decide +kernel
theorem dX6_canBe_127 : decode cX6_canBe 127 = .ok (.goto 4, 3) := by decide +kernel
theorem dX6_canBe_130 : decode cX6_canBe 130 = .ok (.iconst 0, 1) := by decide +kernel
theorem dX6_canBe_131 : decode cX6_canBe 131 = .ok (.ireturn, 1) := by decide +kernel
theorem dX6_canBe_132 : decode cX6_canBe 132 = .ok (.aload_n 0, 1) := by decide +kernel
theorem dX6_canBe_133 : decode cX6_canBe 133 = .ok (.getfield 49, 3) := by decide +kernel
theorem dX6_canBe_136 : decode cX6_canBe 136 = .ok (.invokevirtual 257, 3) := by decide +kernel
theorem dX6_canBe_139 : decode cX6_canBe 139 = .ok (.ireturn, 1) := by decide +kernel
theorem dX6_canBe_140 : decode cX6_canBe 140 = .ok (.aload_n 0, 1) := by decide +kernel
theorem dX6_canBe_141 : decode cX6_canBe 141 = .ok (.getfield 49, 3) := by decide +kernel
theorem dX6_canBe_144 : decode cX6_canBe 144 = .ok (.iload_n 3, 1) := by decide +kernel
theorem dX6_canBe_145 : decode cX6_canBe 145 = .ok (.invokevirtual 249, 3) := by decide +kernel
theorem dX6_canBe_148 : decode cX6_canBe 148 = .ok (.ireturn, 1) := by decide +kernel
theorem dX6_canBe_149 : decode cX6_canBe 149 = .ok (.aload_n 0, 1) := by decide +kernel
theorem dX6_canBe_150 : decode cX6_canBe 150 = .ok (.getfield 49, 3) := by decide +kernel
theorem dX6_canBe_153 : decode cX6_canBe 153 = .ok (.getfield 211, 3) := by decide +kernel
theorem dX6_canBe_156 : decode cX6_canBe 156 = .ok (.ifCond .ne 7, 3) := by decide +kernel
theorem dX6_canBe_159 : decode cX6_canBe 159 = .ok (.iconst 1, 1) := by decide +kernel
theorem dX6_canBe_160 : decode cX6_canBe 160 = .ok (.goto 4, 3) := by decide +kernel
theorem dX6_canBe_163 : decode cX6_canBe 163 = .ok (.iconst 0, 1) := by decide +kernel
theorem dX6_canBe_164 : decode cX6_canBe 164 = .ok (.ireturn, 1) := by decide +kernel
theorem dX6_canBe_165 : decode cX6_canBe 165 = .ok (.aload_n 0, 1) := by decide +kernel
theorem dX6_canBe_166 : decode cX6_canBe 166 = .ok (.getfield 32, 3) := by decide +kernel
theorem dX6_canBe_169 : decode cX6_canBe 169 = .ok (.iconst 5, 1) := by decide +kernel
theorem dX6_canBe_170 : decode cX6_canBe 170 = .ok (.iload_n 2, 1) := by decide +kernel
theorem dX6_canBe_171 : decode cX6_canBe 171 = .ok (.iload_n 3, 1) := by decide +kernel
theorem dX6_canBe_172 : decode cX6_canBe 172 = .ok (.iload 4, 2) := by decide +kernel
theorem dX6_canBe_174 : decode cX6_canBe 174 = .ok (.invokevirtual 255, 3) := by decide +kernel
theorem dX6_canBe_177 : decode cX6_canBe 177 = .ok (.ifCond .ne 7, 3) := by decide +kernel
theorem dX6_canBe_180 : decode cX6_canBe 180 = .ok (.iconst 1, 1) := by decide +kernel
theorem dX6_canBe_181 : decode cX6_canBe 181 = .ok (.goto 4, 3) := by decide +kernel
theorem dX6_canBe_184 : decode cX6_canBe 184 = .ok (.iconst 0, 1) := by decide +kernel
theorem dX6_canBe_185 : decode cX6_canBe 185 = .ok (.ireturn, 1) := by decide +kernel
theorem dX6_canBe_186 : decode cX6_canBe 186 = .ok (.aload_n 0, 1) := by decide +kernel
theorem dX6_canBe_187 : decode cX6_canBe 187 = .ok (.iload_n 2, 1) := by decide +kernel
theorem dX6_canBe_188 : decode cX6_canBe 188 = .ok (.iconst 4, 1) := by decide +kernel
theorem dX6_canBe_189 : decode cX6_canBe 189 = .ok (.invokevirtual 260, 3) := by decide +kernel
theorem dX6_canBe_192 : decode cX6_canBe 192 = .ok (.ifCond .eq 17, 3) := by decide +kernel
theorem dX6_canBe_195 : decode cX6_canBe 195 = .ok (.aload_n 0, 1) := by decide +kernel
theorem dX6_canBe_196 : decode cX6_canBe 196 = .ok (.getfield 49, 3) := by decide +kernel
theorem dX6_canBe_199 : decode cX6_canBe 199 = .ok (.getfield 263, 3) := by decide +kernel
theorem dX6_canBe_202 : decode cX6_canBe 202 = .ok (.ifCond .ne 7, 3) := by decide +kernel
theorem dX6_canBe_205 : decode cX6_canBe 205 = .ok (.iconst 1, 1) := by decide +kernel
theorem dX6_canBe_206 : decode cX6_canBe 206 = .ok (.goto 4, 3) := by decide +kernel
theorem dX6_canBe_209 : decode cX6_canBe 209 = .ok (.iconst 0, 1) := by decide +kernel
theorem dX6_canBe_210 : decode cX6_canBe 210 = .ok (.ireturn, 1) := by decide +kernel
theorem dX6_canBe_211 : decode cX6_canBe 211 = .ok (.aload_n 0, 1) := by decide +kernel
theorem dX6_canBe_212 : decode cX6_canBe 212 = .ok (.iload_n 2, 1) := by decide +kernel
theorem dX6_canBe_213 : decode cX6_canBe 213 = .ok (.iconst 3, 1) := by decide +kernel
theorem dX6_canBe_214 : decode cX6_canBe 214 = .ok (.invokevirtual 260, 3) := by decide +kernel
theorem dX6_canBe_217 : decode cX6_canBe 217 = .ok (.ifCond .eq 23, 3) := by decide +kernel
theorem dX6_canBe_220 : decode cX6_canBe 220 = .ok (.aload_n 0, 1) := by decide +kernel
theorem dX6_canBe_221 : decode cX6_canBe 221 = .ok (.getfield 32, 3) := by decide +kernel
theorem dX6_canBe_224 : decode cX6_canBe 224 = .ok (.bipush 8, 2) := by decide +kernel
theorem dX6_canBe_226 : decode cX6_canBe 226 = .ok (.iload_n 2, 1) := by decide +kernel
theorem dX6_canBe_227 : decode cX6_canBe 227 = .ok (.iload_n 3, 1) := by decide +kernel
theorem dX6_canBe_228 : decode cX6_canBe 228 = .ok (.iload 4, 2) := by decide +kernel
theorem dX6_canBe_230 : decode cX6_canBe 230 = .ok (.invokevirtual 255, 3) := by decide +kernel
theorem dX6_canBe_233 : decode cX6_canBe 233 = .ok (.ifCond .ne 7, 3) := by decide +kernel
theorem dX6_canBe_236 : decode cX6_canBe 236 = .ok (.iconst 1, 1) := by decide +kernel
theorem dX6_canBe_237 : decode cX6_canBe 237 = .ok (.goto 4, 3) := by decide +kernel
theorem dX6_canBe_240 : decode cX6_canBe 240 = .ok (.iconst 0, 1) := by decide +kernel
theorem dX6_canBe_241 : decode cX6_canBe 241 = .ok (.ireturn, 1) := by decide +kernel
theorem dX6_canBe_242 : decode cX6_canBe 242 = .ok (.iconst 0, 1) := by decide +kernel
theorem dX6_canBe_243 : decode cX6_canBe 243 = .ok (.ireturn, 1) := by decide +kernel
theorem dX6_isOfKind_0 : decode cX6_isOfKind 0 = .ok (.aload_n 0, 1) := by decide +kernel
theorem dX6_isOfKind_1 : decode cX6_isOfKind 1 = .ok (.iload_n 1, 1) := by decide +kernel
theorem dX6_isOfKind_2 : decode cX6_isOfKind 2 = .ok (.invokevirtual 94, 3) := by decide +kernel
theorem dX6_isOfKind_5 : decode cX6_isOfKind 5 = .ok (.astore_n 3, 1) := by decide +kernel
theorem dX6_isOfKind_6 : decode cX6_isOfKind 6 = .ok (.aload_n 3, 1) := by decide +kernel
theorem dX6_isOfKind_7 : decode cX6_isOfKind 7 = .ok (.ifnull 15, 3) := by decide +kernel
theorem dX6_isOfKind_10 : decode cX6_isOfKind 10 = .ok (.aload_n 3, 1) := by decide +kernel
theorem dX6_isOfKind_11 : decode cX6_isOfKind 11 = .ok (.getfield 166, 3) := by decide +kernel
theorem dX6_isOfKind_14 : decode cX6_isOfKind 14 = .ok (.iload_n 2, 1) := by decide +kernel
theorem dX6_isOfKind_15 : decode cX6_isOfKind 15 = .ok (.if_icmp .ne 7, 3) := by decide +kernel
theorem dX6_isOfKind_18 : decode cX6_isOfKind 18 = .ok (.iconst 1, 1) := by decide +kernel
theorem dX6_isOfKind_19 : decode cX6_isOfKind 19 = .ok (.goto 4, 3) := by decide +kernel
theorem dX6_isOfKind_22 : decode cX6_isOfKind 22 = .ok (.iconst 0, 1) := by decide +kernel
theorem dX6_isOfKind_23 : decode cX6_isOfKind 23 = .ok (.ireturn, 1) := by decide +kernel
theorem dX6_haveOneOwner_0 : decode cX6_haveOneOwner 0 = .ok (.aload_n 0, 1) := by decide +kernel
theorem dX6_haveOneOwner_1 : decode cX6_haveOneOwner 1 = .ok (.iload_n 1, 1) := by decide +kernel
theorem dX6_haveOneOwner_2 : decode cX6_haveOneOwner 2 = .ok (.invokevirtual 94, 3) := by decide +kernel
theorem dX6_haveOneOwner_5 : decode cX6_haveOneOwner 5 = .ok (.astore_n 3, 1) := by decide +kernel
theorem dX6_haveOneOwner_6 : decode cX6_haveOneOwner 6 = .ok (.aload_n 0, 1) := by decide +kernel
theorem dX6_haveOneOwner_7 : decode cX6_haveOneOwner 7 = .ok (.iload_n 2, 1) := by decide +kernel
theorem dX6_haveOneOwner_8 : decode cX6_haveOneOwner 8 = .ok (.invokevirtual 94, 3) := by decide +kernel
theorem dX6_haveOneOwner_11 : decode cX6_haveOneOwner 11 = .ok (.astore 4, 2) := by decide +kernel
theorem dX6_haveOneOwner_13 : decode cX6_haveOneOwner 13 = .ok (.aload_n 3, 1) := by decide +kernel
theorem dX6_haveOneOwner_14 : decode cX6_haveOneOwner 14 = .ok (.ifnull 24, 3) := by decide +kernel
theorem dX6_haveOneOwner_17 : decode cX6_haveOneOwner 17 = .ok (.aload 4, 2) := by decide +kernel
theorem dX6_haveOneOwner_19 : decode cX6_haveOneOwner 19 = .ok (.ifnull 19, 3) := by decide +kernel
theorem dX6_haveOneOwner_22 : decode cX6_haveOneOwner 22 = .ok (.aload_n 3, 1) := by decide +kernel
theorem dX6_haveOneOwner_23 : decode cX6_haveOneOwner 23 = .ok (.getfield 169, 3) := by decide +kernel
theorem dX6_haveOneOwner_26 : decode cX6_haveOneOwner 26 = .ok (.aload 4, 2) := by decide +kernel
theorem dX6_haveOneOwner_28 : decode cX6_haveOneOwner 28 = .ok (.getfield 169, 3) := by decide +kernel
theorem dX6_haveOneOwner_31 : decode cX6_haveOneOwner 31 = .ok (.if_icmp .ne 7, 3) := by decide +kernel
theorem dX6_haveOneOwner_34 : decode cX6_haveOneOwner 34 = .ok (.iconst 1, 1) := by decide +kernel
theorem dX6_haveOneOwner_35 : decode cX6_haveOneOwner 35 = .ok (.goto 4, 3) := by decide +kernel
theorem dX6_haveOneOwner_38 : decode cX6_haveOneOwner 38 = .ok (.iconst 0, 1) := by decide +kernel
theorem dX6_haveOneOwner_39 : decode cX6_haveOneOwner 39 = .ok (.ireturn, 1) := by decide +kernel
theorem dX6_likeOf_0 : decode cX6_likeOf 0 = .ok (.aload_n 1, 1) := by decide +kernel
theorem dX6_likeOf_1 : decode cX6_likeOf 1 = .ok (.invokevirtual 266, 3) := by decide +kernel
theorem dX6_likeOf_4 : decode cX6_likeOf 4 = .ok (.ifCond .eq 62, 3) := by decide +kernel
theorem dX6_likeOf_7 : decode cX6_likeOf 7 = .ok (.aload_n 2, 1) := by decide +kernel
theorem dX6_likeOf_8 : decode cX6_likeOf 8 = .ok (.invokevirtual 266, 3) := by decide +kernel
theorem dX6_likeOf_11 : decode cX6_likeOf 11 = .ok (.ifCond .eq 55, 3) := by decide +kernel
theorem dX6_likeOf_14 : decode cX6_likeOf 14 = .ok (.aload_n 1, 1) := by decide +kernel
theorem dX6_likeOf_15 : decode cX6_likeOf 15 = .ok (.aload_n 2, 1) := by decide +kernel
theorem dX6_likeOf_16 : decode cX6_likeOf 16 = .ok (.invokevirtual 269, 3) := by decide +kernel
theorem dX6_likeOf_19 : decode cX6_likeOf 19 = .ok (.istore_n 3, 1) := by decide +kernel
theorem dX6_likeOf_20 : decode cX6_likeOf 20 = .ok (.aload_n 1, 1) := by decide +kernel
theorem dX6_likeOf_21 : decode cX6_likeOf 21 = .ok (.getfield 166, 3) := by decide +kernel
theorem dX6_likeOf_24 : decode cX6_likeOf 24 = .ok (.iconst 2, 1) := by decide +kernel
theorem dX6_likeOf_25 : decode cX6_likeOf 25 = .ok (.if_icmp .ne 15, 3) := by decide +kernel
theorem dX6_likeOf_28 : decode cX6_likeOf 28 = .ok (.aload_n 2, 1) := by decide +kernel
theorem dX6_likeOf_29 : decode cX6_likeOf 29 = .ok (.getfield 166, 3) := by decide +kernel
theorem dX6_likeOf_32 : decode cX6_likeOf 32 = .ok (.iconst 2, 1) := by decide +kernel
theorem dX6_likeOf_33 : decode cX6_likeOf 33 = .ok (.if_icmp .ne 7, 3) := by decide +kernel
theorem dX6_likeOf_36 : decode cX6_likeOf 36 = .ok (.iconst 1, 1) := by decide +kernel
theorem dX6_likeOf_37 : decode cX6_likeOf 37 = .ok (.goto 4, 3) := by decide +kernel
theorem dX6_likeOf_40 : decode cX6_likeOf 40 = .ok (.iconst 0, 1) := by decide +kernel
theorem dX6_likeOf_41 : decode cX6_likeOf 41 = .ok (.istore 4, 2) := by decide +kernel
theorem dX6_likeOf_43 : decode cX6_likeOf 43 = .ok (.iload 4, 2) := by decide +kernel
theorem dX6_likeOf_45 : decode cX6_likeOf 45 = .ok (.ifCond .eq 19, 3) := by decide +kernel
theorem dX6_likeOf_48 : decode cX6_likeOf 48 = .ok (.iload_n 3, 1) := by decide +kernel
theorem dX6_likeOf_49 : decode cX6_likeOf 49 = .ok (.aload_n 0, 1) := by decide +kernel
theorem dX6_likeOf_50 : decode cX6_likeOf 50 = .ok (.getfield 10, 3) := by decide +kernel
theorem dX6_likeOf_53 : decode cX6_likeOf 53 = .ok (.aload_n 1, 1) := by decide +kernel
theorem dX6_likeOf_54 : decode cX6_likeOf 54 = .ok (.aload_n 2, 1) := by decide +kernel
theorem dX6_likeOf_55 : decode cX6_likeOf 55 = .ok (.invokevirtual 272, 3) := by decide +kernel
theorem dX6_likeOf_58 : decode cX6_likeOf 58 = .ok (.invokestatic 273, 3) := by decide +kernel
theorem dX6_likeOf_61 : decode cX6_likeOf 61 = .ok (.goto 4, 3) := by decide +kernel
theorem dX6_likeOf_64 : decode cX6_likeOf 64 = .ok (.iload_n 3, 1) := by decide +kernel
theorem dX6_likeOf_65 : decode cX6_likeOf 65 = .ok (.ireturn, 1) := by decide +kernel
theorem dX6_likeOf_66 : decode cX6_likeOf 66 = .ok (.aload_n 1, 1) := by decide +kernel
theorem dX6_likeOf_67 : decode cX6_likeOf 67 = .ok (.getfield 166, 3) := by decide +kernel
theorem dX6_likeOf_70 : decode cX6_likeOf 70 = .ok (.iconst 1, 1) := by decide +kernel
theorem dX6_likeOf_71 : decode cX6_likeOf 71 = .ok (.if_icmp .eq 11, 3) := by decide +kernel
theorem dX6_likeOf_74 : decode cX6_likeOf 74 = .ok (.aload_n 2, 1) := by decide +kernel
theorem dX6_likeOf_75 : decode cX6_likeOf 75 = .ok (.getfield 166, 3) := by decide +kernel
theorem dX6_likeOf_78 : decode cX6_likeOf 78 = .ok (.iconst 1, 1) := by decide +kernel
theorem dX6_likeOf_79 : decode cX6_likeOf 79 = .ok (.if_icmp .ne 7, 3) := by decide +kernel
theorem dX6_likeOf_82 : decode cX6_likeOf 82 = .ok (.iconst 0, 1) := by decide +kernel
theorem dX6_likeOf_83 : decode cX6_likeOf 83 = .ok (.goto 12, 3) := by decide +kernel
theorem dX6_likeOf_86 : decode cX6_likeOf 86 = .ok (.aload_n 0, 1) := by decide +kernel
theorem dX6_likeOf_87 : decode cX6_likeOf 87 = .ok (.getfield 10, 3) := by decide +kernel
theorem dX6_likeOf_90 : decode cX6_likeOf 90 = .ok (.aload_n 1, 1) := by decide +kernel
theorem dX6_likeOf_91 : decode cX6_likeOf 91 = .ok (.aload_n 2, 1) := by decide +kernel
theorem dX6_likeOf_92 : decode cX6_likeOf 92 = .ok (.invokevirtual 272, 3) := by decide +kernel
theorem dX6_likeOf_95 : decode cX6_likeOf 95 = .ok (.ireturn, 1) := by decide +kernel
theorem dX6_areAlike_0 : decode cX6_areAlike 0 = .ok (.aload_n 0, 1) := by decide +kernel
theorem dX6_areAlike_1 : decode cX6_areAlike 1 = .ok (.iload_n 1, 1) := by decide +kernel
theorem dX6_areAlike_2 : decode cX6_areAlike 2 = .ok (.invokevirtual 94, 3) := by decide +kernel
theorem dX6_areAlike_5 : decode cX6_areAlike 5 = .ok (.astore_n 3, 1) := by decide +kernel
theorem dX6_areAlike_6 : decode cX6_areAlike 6 = .ok (.aload_n 0, 1) := by decide +kernel
theorem dX6_areAlike_7 : decode cX6_areAlike 7 = .ok (.iload_n 2, 1) := by decide +kernel
theorem dX6_areAlike_8 : decode cX6_areAlike 8 = .ok (.invokevirtual 94, 3) := by decide +kernel
theorem dX6_areAlike_11 : decode cX6_areAlike 11 = .ok (.astore 4, 2) := by decide +kernel
theorem dX6_areAlike_13 : decode cX6_areAlike 13 = .ok (.aload_n 3, 1) := by decide +kernel
theorem dX6_areAlike_14 : decode cX6_areAlike 14 = .ok (.ifnull 26, 3) := by decide +kernel
theorem dX6_areAlike_17 : decode cX6_areAlike 17 = .ok (.aload 4, 2) := by decide +kernel
theorem dX6_areAlike_19 : decode cX6_areAlike 19 = .ok (.ifnull 21, 3) := by decide +kernel
theorem dX6_areAlike_22 : decode cX6_areAlike 22 = .ok (.aload_n 0, 1) := by decide +kernel
theorem dX6_areAlike_23 : decode cX6_areAlike 23 = .ok (.aload_n 3, 1) := by decide +kernel
theorem dX6_areAlike_24 : decode cX6_areAlike 24 = .ok (.aload 4, 2) := by decide +kernel
theorem dX6_areAlike_26 : decode cX6_areAlike 26 = .ok (.invokevirtual 186, 3) := by decide +kernel
theorem dX6_areAlike_29 : decode cX6_areAlike 29 = .ok (.aload_n 0, 1) := by decide +kernel
theorem dX6_areAlike_30 : decode cX6_areAlike 30 = .ok (.getfield 40, 3) := by decide +kernel
theorem dX6_areAlike_33 : decode cX6_areAlike 33 = .ok (.if_icmp .lt 7, 3) := by decide +kernel
theorem dX6_areAlike_36 : decode cX6_areAlike 36 = .ok (.iconst 1, 1) := by decide +kernel
theorem dX6_areAlike_37 : decode cX6_areAlike 37 = .ok (.goto 4, 3) := by decide +kernel
theorem dX6_areAlike_40 : decode cX6_areAlike 40 = .ok (.iconst 0, 1) := by decide +kernel
theorem dX6_areAlike_41 : decode cX6_areAlike 41 = .ok (.ireturn, 1) := by decide +kernel
theorem dX6_isNear_0 : decode cX6_isNear 0 = .ok (.aload_n 0, 1) := by decide +kernel
theorem dX6_isNear_1 : decode cX6_isNear 1 = .ok (.getfield 49, 3) := by decide +kernel
theorem dX6_isNear_4 : decode cX6_isNear 4 = .ok (.getfield 263, 3) := by decide +kernel
theorem dX6_isNear_7 : decode cX6_isNear 7 = .ok (.ifCond .ne 19, 3) := by decide +kernel
theorem dX6_isNear_10 : decode cX6_isNear 10 = .ok (.aload_n 0, 1) := by decide +kernel
theorem dX6_isNear_11 : decode cX6_isNear 11 = .ok (.getfield 19, 3) := by decide +kernel
theorem dX6_isNear_14 : decode cX6_isNear 14 = .ok (.iload_n 1, 1) := by decide +kernel
theorem dX6_isNear_15 : decode cX6_isNear 15 = .ok (.iload_n 2, 1) := by decide +kernel
theorem dX6_isNear_16 : decode cX6_isNear 16 = .ok (.invokevirtual 279, 3) := by decide +kernel
theorem dX6_isNear_19 : decode cX6_isNear 19 = .ok (.aload_n 0, 1) := by decide +kernel
theorem dX6_isNear_20 : decode cX6_isNear 20 = .ok (.getfield 43, 3) := by decide +kernel
theorem dX6_isNear_23 : decode cX6_isNear 23 = .ok (.if_icmp .lt 7, 3) := by decide +kernel
theorem dX6_isNear_26 : decode cX6_isNear 26 = .ok (.iconst 1, 1) := by decide +kernel
theorem dX6_isNear_27 : decode cX6_isNear 27 = .ok (.goto 4, 3) := by decide +kernel
theorem dX6_isNear_30 : decode cX6_isNear 30 = .ok (.iconst 0, 1) := by decide +kernel
theorem dX6_isNear_31 : decode cX6_isNear 31 = .ok (.ireturn, 1) := by decide +kernel
theorem dX6_earliestNear_0 : decode cX6_earliestNear 0 = .ok (.iconst (-1), 1) := by decide +kernel
theorem dX6_earliestNear_1 : decode cX6_earliestNear 1 = .ok (.istore_n 2, 1) := by decide +kernel
theorem dX6_earliestNear_2 : decode cX6_earliestNear 2 = .ok (.iconst 0, 1) := by decide +kernel
theorem dX6_earliestNear_3 : decode cX6_earliestNear 3 = .ok (.istore_n 3, 1) := by decide +kernel
theorem dX6_earliestNear_4 : decode cX6_earliestNear 4 = .ok (.iload_n 3, 1) := by decide +kernel
theorem dX6_earliestNear_5 : decode cX6_earliestNear 5 = .ok (.aload_n 0, 1) := by decide +kernel
theorem dX6_earliestNear_6 : decode cX6_earliestNear 6 = .ok (.getfield 49, 3) := by decide +kernel
theorem dX6_earliestNear_9 : decode cX6_earliestNear 9 = .ok (.getfield 215, 3) := by decide +kernel
theorem dX6_earliestNear_12 : decode cX6_earliestNear 12 = .ok (.if_icmp .ge 61, 3) := by decide +kernel
theorem dX6_earliestNear_15 : decode cX6_earliestNear 15 = .ok (.aload_n 0, 1) := by decide +kernel
theorem dX6_earliestNear_16 : decode cX6_earliestNear 16 = .ok (.getfield 49, 3) := by decide +kernel
theorem dX6_earliestNear_19 : decode cX6_earliestNear 19 = .ok (.iload_n 3, 1) := by decide +kernel
theorem dX6_earliestNear_20 : decode cX6_earliestNear 20 = .ok (.invokevirtual 202, 3) := by decide +kernel
theorem dX6_earliestNear_23 : decode cX6_earliestNear 23 = .ok (.ifCond .eq 44, 3) := by decide +kernel
theorem dX6_earliestNear_26 : decode cX6_earliestNear 26 = .ok (.aload_n 0, 1) := by decide +kernel
theorem dX6_earliestNear_27 : decode cX6_earliestNear 27 = .ok (.aload_n 0, 1) := by decide +kernel
theorem dX6_earliestNear_28 : decode cX6_earliestNear 28 = .ok (.getfield 49, 3) := by decide +kernel
theorem dX6_earliestNear_31 : decode cX6_earliestNear 31 = .ok (.getfield 282, 3) := by decide +kernel
theorem dX6_earliestNear_34 : decode cX6_earliestNear 34 = .ok (.iload_n 3, 1) := by decide +kernel
theorem dX6_earliestNear_35 : decode cX6_earliestNear 35 = .ok (.iaload, 1) := by decide +kernel
theorem dX6_earliestNear_36 : decode cX6_earliestNear 36 = .ok (.iload_n 1, 1) := by decide +kernel
theorem dX6_earliestNear_37 : decode cX6_earliestNear 37 = .ok (.invokevirtual 285, 3) := by decide +kernel
theorem dX6_earliestNear_40 : decode cX6_earliestNear 40 = .ok (.ifCond .eq 27, 3) := by decide +kernel
theorem dX6_earliestNear_43 : decode cX6_earliestNear 43 = .ok (.aload_n 0, 1) := by decide +kernel
theorem dX6_earliestNear_44 : decode cX6_earliestNear 44 = .ok (.getfield 49, 3) := by decide +kernel
theorem dX6_earliestNear_47 : decode cX6_earliestNear 47 = .ok (.iload_n 3, 1) := by decide +kernel
theorem dX6_earliestNear_48 : decode cX6_earliestNear 48 = .ok (.invokevirtual 199, 3) := by decide +kernel
theorem dX6_earliestNear_51 : decode cX6_earliestNear 51 = .ok (.istore 4, 2) := by decide +kernel
theorem dX6_earliestNear_53 : decode cX6_earliestNear 53 = .ok (.iload_n 2, 1) := by decide +kernel
theorem dX6_earliestNear_54 : decode cX6_earliestNear 54 = .ok (.iconst (-1), 1) := by decide +kernel
theorem dX6_earliestNear_55 : decode cX6_earliestNear 55 = .ok (.if_icmp .eq 9, 3) := by decide +kernel
theorem dX6_earliestNear_58 : decode cX6_earliestNear 58 = .ok (.iload 4, 2) := by decide +kernel
theorem dX6_earliestNear_60 : decode cX6_earliestNear 60 = .ok (.iload_n 2, 1) := by decide +kernel
theorem dX6_earliestNear_61 : decode cX6_earliestNear 61 = .ok (.if_icmp .ge 6, 3) := by decide +kernel
theorem dX6_earliestNear_64 : decode cX6_earliestNear 64 = .ok (.iload 4, 2) := by decide +kernel
theorem dX6_earliestNear_66 : decode cX6_earliestNear 66 = .ok (.istore_n 2, 1) := by decide +kernel
theorem dX6_earliestNear_67 : decode cX6_earliestNear 67 = .ok (.iinc 3 1, 3) := by decide +kernel
theorem dX6_earliestNear_70 : decode cX6_earliestNear 70 = .ok (.goto (-66), 3) := by decide +kernel
theorem dX6_earliestNear_73 : decode cX6_earliestNear 73 = .ok (.iload_n 2, 1) := by decide +kernel
theorem dX6_earliestNear_74 : decode cX6_earliestNear 74 = .ok (.ireturn, 1) := by decide +kernel
theorem dX6_standsNearYounger_0 : decode cX6_standsNearYounger 0 = .ok (.iconst 0, 1) := by decide +kernel
theorem dX6_standsNearYounger_1 : decode cX6_standsNearYounger 1 = .ok (.istore_n 1, 1) := by decide +kernel
theorem dX6_standsNearYounger_2 : decode cX6_standsNearYounger 2 = .ok (.iload_n 1, 1) := by decide +kernel
theorem dX6_standsNearYounger_3 : decode cX6_standsNearYounger 3 = .ok (.aload_n 0, 1) := by decide +kernel
theorem dX6_standsNearYounger_4 : decode cX6_standsNearYounger 4 = .ok (.getfield 53, 3) := by decide +kernel
theorem dX6_standsNearYounger_7 : decode cX6_standsNearYounger 7 = .ok (.getfield 215, 3) := by decide +kernel
theorem dX6_standsNearYounger_10 : decode cX6_standsNearYounger 10 = .ok (.if_icmp .ge 28, 3) := by decide +kernel
theorem dX6_standsNearYounger_13 : decode cX6_standsNearYounger 13 = .ok (.aload_n 0, 1) := by decide +kernel
theorem dX6_standsNearYounger_14 : decode cX6_standsNearYounger 14 = .ok (.aload_n 0, 1) := by decide +kernel
theorem dX6_standsNearYounger_15 : decode cX6_standsNearYounger 15 = .ok (.getfield 53, 3) := by decide +kernel
theorem dX6_standsNearYounger_18 : decode cX6_standsNearYounger 18 = .ok (.getfield 282, 3) := by decide +kernel
theorem dX6_standsNearYounger_21 : decode cX6_standsNearYounger 21 = .ok (.iload_n 1, 1) := by decide +kernel
theorem dX6_standsNearYounger_22 : decode cX6_standsNearYounger 22 = .ok (.iaload, 1) := by decide +kernel
theorem dX6_standsNearYounger_23 : decode cX6_standsNearYounger 23 = .ok (.invokevirtual 225, 3) := by decide +kernel
theorem dX6_standsNearYounger_26 : decode cX6_standsNearYounger 26 = .ok (.iconst (-1), 1) := by decide +kernel
theorem dX6_standsNearYounger_27 : decode cX6_standsNearYounger 27 = .ok (.if_icmp .eq 5, 3) := by decide +kernel
theorem dX6_standsNearYounger_30 : decode cX6_standsNearYounger 30 = .ok (.iconst 1, 1) := by decide +kernel
theorem dX6_standsNearYounger_31 : decode cX6_standsNearYounger 31 = .ok (.ireturn, 1) := by decide +kernel
theorem dX6_standsNearYounger_32 : decode cX6_standsNearYounger 32 = .ok (.iinc 1 1, 3) := by decide +kernel
theorem dX6_standsNearYounger_35 : decode cX6_standsNearYounger 35 = .ok (.goto (-33), 3) := by decide +kernel
theorem dX6_standsNearYounger_38 : decode cX6_standsNearYounger 38 = .ok (.iconst 0, 1) := by decide +kernel
theorem dX6_standsNearYounger_39 : decode cX6_standsNearYounger 39 = .ok (.ireturn, 1) := by decide +kernel
theorem dX6_claimOf_0 : decode cX6_claimOf 0 = .ok (.aload_n 0, 1) := by decide +kernel
theorem dX6_claimOf_1 : decode cX6_claimOf 1 = .ok (.iload_n 2, 1) := by decide +kernel
theorem dX6_claimOf_2 : decode cX6_claimOf 2 = .ok (.invokevirtual 94, 3) := by decide +kernel
theorem dX6_claimOf_5 : decode cX6_claimOf 5 = .ok (.astore 4, 2) := by decide +kernel
theorem dX6_claimOf_7 : decode cX6_claimOf 7 = .ok (.aload 4, 2) := by decide +kernel
theorem dX6_claimOf_9 : decode cX6_claimOf 9 = .ok (.ifnull 14, 3) := by decide +kernel
theorem dX6_claimOf_12 : decode cX6_claimOf 12 = .ok (.aload 4, 2) := by decide +kernel
theorem dX6_claimOf_14 : decode cX6_claimOf 14 = .ok (.getfield 169, 3) := by decide +kernel
theorem dX6_claimOf_17 : decode cX6_claimOf 17 = .ok (.iload_n 1, 1) := by decide +kernel
theorem dX6_claimOf_18 : decode cX6_claimOf 18 = .ok (.if_icmp .ne 5, 3) := by decide +kernel
theorem dX6_claimOf_21 : decode cX6_claimOf 21 = .ok (.iconst 1, 1) := by decide +kernel
theorem dX6_claimOf_22 : decode cX6_claimOf 22 = .ok (.ireturn, 1) := by decide +kernel
theorem dX6_claimOf_23 : decode cX6_claimOf 23 = .ok (.aload_n 0, 1) := by decide +kernel
theorem dX6_claimOf_24 : decode cX6_claimOf 24 = .ok (.getfield 32, 3) := by decide +kernel
theorem dX6_claimOf_27 : decode cX6_claimOf 27 = .ok (.iconst 5, 1) := by decide +kernel
theorem dX6_claimOf_28 : decode cX6_claimOf 28 = .ok (.iload_n 2, 1) := by decide +kernel
theorem dX6_claimOf_29 : decode cX6_claimOf 29 = .ok (.iload_n 1, 1) := by decide +kernel
theorem dX6_claimOf_30 : decode cX6_claimOf 30 = .ok (.iload_n 3, 1) := by decide +kernel
theorem dX6_claimOf_31 : decode cX6_claimOf 31 = .ok (.invokevirtual 255, 3) := by decide +kernel
theorem dX6_claimOf_34 : decode cX6_claimOf 34 = .ok (.ifCond .eq 5, 3) := by decide +kernel
theorem dX6_claimOf_37 : decode cX6_claimOf 37 = .ok (.iconst 2, 1) := by decide +kernel
theorem dX6_claimOf_38 : decode cX6_claimOf 38 = .ok (.ireturn, 1) := by decide +kernel
theorem dX6_claimOf_39 : decode cX6_claimOf 39 = .ok (.aload_n 0, 1) := by decide +kernel
theorem dX6_claimOf_40 : decode cX6_claimOf 40 = .ok (.getfield 32, 3) := by decide +kernel
theorem dX6_claimOf_43 : decode cX6_claimOf 43 = .ok (.bipush 8, 2) := by decide +kernel
theorem dX6_claimOf_45 : decode cX6_claimOf 45 = .ok (.iload_n 2, 1) := by decide +kernel
theorem dX6_claimOf_46 : decode cX6_claimOf 46 = .ok (.iload_n 1, 1) := by decide +kernel
theorem dX6_claimOf_47 : decode cX6_claimOf 47 = .ok (.iload_n 3, 1) := by decide +kernel
theorem dX6_claimOf_48 : decode cX6_claimOf 48 = .ok (.invokevirtual 255, 3) := by decide +kernel
theorem dX6_claimOf_51 : decode cX6_claimOf 51 = .ok (.ifCond .eq 7, 3) := by decide +kernel
theorem dX6_claimOf_54 : decode cX6_claimOf 54 = .ok (.iconst 3, 1) := by decide +kernel
theorem dX6_claimOf_55 : decode cX6_claimOf 55 = .ok (.goto 4, 3) := by decide +kernel
theorem dX6_claimOf_58 : decode cX6_claimOf 58 = .ok (.iconst 0, 1) := by decide +kernel
theorem dX6_claimOf_59 : decode cX6_claimOf 59 = .ok (.ireturn, 1) := by decide +kernel
theorem dX6_findClash_0 : decode cX6_findClash 0 = .ok (.aload_n 0, 1) := by decide +kernel
theorem dX6_findClash_1 : decode cX6_findClash 1 = .ok (.getfield 62, 3) := by decide +kernel
theorem dX6_findClash_4 : decode cX6_findClash 4 = .ok (.invokevirtual 288, 3) := by decide +kernel
theorem dX6_findClash_7 : decode cX6_findClash 7 = .ok (.aload_n 0, 1) := by decide +kernel
theorem dX6_findClash_8 : decode cX6_findClash 8 = .ok (.iload_n 2, 1) := by decide +kernel
theorem dX6_findClash_9 : decode cX6_findClash 9 = .ok (.invokevirtual 94, 3) := by decide +kernel
theorem dX6_findClash_12 : decode cX6_findClash 12 = .ok (.astore 5, 2) := by decide +kernel
theorem dX6_findClash_14 : decode cX6_findClash 14 = .ok (.aload 5, 2) := by decide +kernel
theorem dX6_findClash_16 : decode cX6_findClash 16 = .ok (.ifnull 12, 3) := by decide +kernel
theorem dX6_findClash_19 : decode cX6_findClash 19 = .ok (.aload_n 0, 1) := by decide +kernel
theorem dX6_findClash_20 : decode cX6_findClash 20 = .ok (.iload_n 1, 1) := by decide +kernel
theorem dX6_findClash_21 : decode cX6_findClash 21 = .ok (.iload_n 2, 1) := by decide +kernel
theorem dX6_findClash_22 : decode cX6_findClash 22 = .ok (.invokevirtual 238, 3) := by decide +kernel
theorem dX6_findClash_25 : decode cX6_findClash 25 = .ok (.ifCond .eq 4, 3) := by decide +kernel
theorem dX6_findClash_28 : decode cX6_findClash 28 = .ok (.return_, 1) := by decide +kernel
theorem dX6_findClash_29 : decode cX6_findClash 29 = .ok (.aload_n 0, 1) := by decide +kernel
theorem dX6_findClash_30 : decode cX6_findClash 30 = .ok (.getfield 49, 3) := by decide +kernel
theorem dX6_findClash_33 : decode cX6_findClash 33 = .ok (.aload_n 0, 1) := by decide +kernel
theorem dX6_findClash_34 : decode cX6_findClash 34 = .ok (.getfield 32, 3) := by decide +kernel
theorem dX6_findClash_37 : decode cX6_findClash 37 = .ok (.iload_n 1, 1) := by decide +kernel
theorem dX6_findClash_38 : decode cX6_findClash 38 = .ok (.iload_n 3, 1) := by decide +kernel
theorem dX6_findClash_39 : decode cX6_findClash 39 = .ok (.iload 4, 2) := by decide +kernel
theorem dX6_findClash_41 : decode cX6_findClash 41 = .ok (.invokevirtual 118, 3) := by decide +kernel
theorem dX6_findClash_44 : decode cX6_findClash 44 = .ok (.aload_n 0, 1) := by decide +kernel
theorem dX6_findClash_45 : decode cX6_findClash 45 = .ok (.getfield 49, 3) := by decide +kernel
theorem dX6_findClash_48 : decode cX6_findClash 48 = .ok (.invokevirtual 291, 3) := by decide +kernel
theorem dX6_findClash_51 : decode cX6_findClash 51 = .ok (.ifCond .ne 4, 3) := by decide +kernel
theorem dX6_findClash_54 : decode cX6_findClash 54 = .ok (.return_, 1) := by decide +kernel
theorem dX6_findClash_55 : decode cX6_findClash 55 = .ok (.aload_n 0, 1) := by decide +kernel
theorem dX6_findClash_56 : decode cX6_findClash 56 = .ok (.getfield 53, 3) := by decide +kernel
theorem dX6_findClash_59 : decode cX6_findClash 59 = .ok (.aload_n 0, 1) := by decide +kernel
theorem dX6_findClash_60 : decode cX6_findClash 60 = .ok (.getfield 32, 3) := by decide +kernel
theorem dX6_findClash_63 : decode cX6_findClash 63 = .ok (.iload_n 2, 1) := by decide +kernel
theorem dX6_findClash_64 : decode cX6_findClash 64 = .ok (.iload_n 3, 1) := by decide +kernel
theorem dX6_findClash_65 : decode cX6_findClash 65 = .ok (.iload 4, 2) := by decide +kernel
theorem dX6_findClash_67 : decode cX6_findClash 67 = .ok (.invokevirtual 118, 3) := by decide +kernel
theorem dX6_findClash_70 : decode cX6_findClash 70 = .ok (.aload_n 0, 1) := by decide +kernel
theorem dX6_findClash_71 : decode cX6_findClash 71 = .ok (.getfield 53, 3) := by decide +kernel
theorem dX6_findClash_74 : decode cX6_findClash 74 = .ok (.invokevirtual 291, 3) := by decide +kernel
theorem dX6_findClash_77 : decode cX6_findClash 77 = .ok (.ifCond .eq 31, 3) := by decide +kernel
theorem dX6_findClash_80 : decode cX6_findClash 80 = .ok (.aload_n 0, 1) := by decide +kernel
theorem dX6_findClash_81 : decode cX6_findClash 81 = .ok (.getfield 32, 3) := by decide +kernel
theorem dX6_findClash_84 : decode cX6_findClash 84 = .ok (.iconst 5, 1) := by decide +kernel
theorem dX6_findClash_85 : decode cX6_findClash 85 = .ok (.iload_n 1, 1) := by decide +kernel
theorem dX6_findClash_86 : decode cX6_findClash 86 = .ok (.aload 5, 2) := by decide +kernel
theorem dX6_findClash_88 : decode cX6_findClash 88 = .ok (.getfield 169, 3) := by decide +kernel
theorem dX6_findClash_91 : decode cX6_findClash 91 = .ok (.iload 4, 2) := by decide +kernel
theorem dX6_findClash_93 : decode cX6_findClash 93 = .ok (.invokevirtual 255, 3) := by decide +kernel
theorem dX6_findClash_96 : decode cX6_findClash 96 = .ok (.ifCond .ne 12, 3) := by decide +kernel
theorem dX6_findClash_99 : decode cX6_findClash 99 = .ok (.aload_n 0, 1) := by decide +kernel
theorem dX6_findClash_100 : decode cX6_findClash 100 = .ok (.iload_n 1, 1) := by decide +kernel
theorem dX6_findClash_101 : decode cX6_findClash 101 = .ok (.iload_n 2, 1) := by decide +kernel
theorem dX6_findClash_102 : decode cX6_findClash 102 = .ok (.invokevirtual 228, 3) := by decide +kernel
theorem dX6_findClash_105 : decode cX6_findClash 105 = .ok (.ifCond .ne 4, 3) := by decide +kernel
theorem dX6_findClash_108 : decode cX6_findClash 108 = .ok (.return_, 1) := by decide +kernel
theorem dX6_findClash_109 : decode cX6_findClash 109 = .ok (.iconst 0, 1) := by decide +kernel
theorem dX6_findClash_110 : decode cX6_findClash 110 = .ok (.istore 6, 2) := by decide +kernel
theorem dX6_findClash_112 : decode cX6_findClash 112 = .ok (.iload 6, 2) := by decide +kernel
theorem dX6_findClash_114 : decode cX6_findClash 114 = .ok (.aload_n 0, 1) := by decide +kernel
theorem dX6_findClash_115 : decode cX6_findClash 115 = .ok (.getfield 53, 3) := by decide +kernel
theorem dX6_findClash_118 : decode cX6_findClash 118 = .ok (.getfield 215, 3) := by decide +kernel
theorem dX6_findClash_121 : decode cX6_findClash 121 = .ok (.if_icmp .ge 30, 3) := by decide +kernel
theorem dX6_findClash_124 : decode cX6_findClash 124 = .ok (.aload_n 0, 1) := by decide +kernel
theorem dX6_findClash_125 : decode cX6_findClash 125 = .ok (.getfield 53, 3) := by decide +kernel
theorem dX6_findClash_128 : decode cX6_findClash 128 = .ok (.iload 6, 2) := by decide +kernel
theorem dX6_findClash_130 : decode cX6_findClash 130 = .ok (.invokevirtual 202, 3) := by decide +kernel
theorem dX6_findClash_133 : decode cX6_findClash 133 = .ok (.ifCond .eq 12, 3) := by decide +kernel
theorem dX6_findClash_136 : decode cX6_findClash 136 = .ok (.aload_n 0, 1) := by decide +kernel
theorem dX6_findClash_137 : decode cX6_findClash 137 = .ok (.iload 6, 2) := by decide +kernel
theorem dX6_findClash_139 : decode cX6_findClash 139 = .ok (.iload_n 1, 1) := by decide +kernel
theorem dX6_findClash_140 : decode cX6_findClash 140 = .ok (.iload_n 2, 1) := by decide +kernel
theorem dX6_findClash_141 : decode cX6_findClash 141 = .ok (.iload_n 3, 1) := by decide +kernel
theorem dX6_findClash_142 : decode cX6_findClash 142 = .ok (.invokevirtual 294, 3) := by decide +kernel
theorem dX6_findClash_145 : decode cX6_findClash 145 = .ok (.iinc 6 1, 3) := by decide +kernel
theorem dX6_findClash_148 : decode cX6_findClash 148 = .ok (.goto (-36), 3) := by decide +kernel
theorem dX6_findClash_151 : decode cX6_findClash 151 = .ok (.return_, 1) := by decide +kernel
theorem dX6_findClashOver_0 : decode cX6_findClashOver 0 = .ok (.aload_n 0, 1) := by decide +kernel
theorem dX6_findClashOver_1 : decode cX6_findClashOver 1 = .ok (.getfield 53, 3) := by decide +kernel
theorem dX6_findClashOver_4 : decode cX6_findClashOver 4 = .ok (.getfield 282, 3) := by decide +kernel
theorem dX6_findClashOver_7 : decode cX6_findClashOver 7 = .ok (.iload_n 1, 1) := by decide +kernel
theorem dX6_findClashOver_8 : decode cX6_findClashOver 8 = .ok (.iaload, 1) := by decide +kernel
theorem dX6_findClashOver_9 : decode cX6_findClashOver 9 = .ok (.istore 5, 2) := by decide +kernel
theorem dX6_findClashOver_11 : decode cX6_findClashOver 11 = .ok (.aload_n 0, 1) := by decide +kernel
theorem dX6_findClashOver_12 : decode cX6_findClashOver 12 = .ok (.getfield 53, 3) := by decide +kernel
theorem dX6_findClashOver_15 : decode cX6_findClashOver 15 = .ok (.iload_n 1, 1) := by decide +kernel
theorem dX6_findClashOver_16 : decode cX6_findClashOver 16 = .ok (.invokevirtual 199, 3) := by decide +kernel
theorem dX6_findClashOver_19 : decode cX6_findClashOver 19 = .ok (.istore 6, 2) := by decide +kernel
theorem dX6_findClashOver_21 : decode cX6_findClashOver 21 = .ok (.aload_n 0, 1) := by decide +kernel
theorem dX6_findClashOver_22 : decode cX6_findClashOver 22 = .ok (.getfield 56, 3) := by decide +kernel
theorem dX6_findClashOver_25 : decode cX6_findClashOver 25 = .ok (.aload_n 0, 1) := by decide +kernel
theorem dX6_findClashOver_26 : decode cX6_findClashOver 26 = .ok (.getfield 32, 3) := by decide +kernel
theorem dX6_findClashOver_29 : decode cX6_findClashOver 29 = .ok (.iload_n 2, 1) := by decide +kernel
theorem dX6_findClashOver_30 : decode cX6_findClashOver 30 = .ok (.iload 4, 2) := by decide +kernel
theorem dX6_findClashOver_32 : decode cX6_findClashOver 32 = .ok (.iload 6, 2) := by decide +kernel
theorem dX6_findClashOver_34 : decode cX6_findClashOver 34 = .ok (.invokevirtual 118, 3) := by decide +kernel
theorem dX6_findClashOver_37 : decode cX6_findClashOver 37 = .ok (.iconst 0, 1) := by decide +kernel
theorem dX6_findClashOver_38 : decode cX6_findClashOver 38 = .ok (.istore 7, 2) := by decide +kernel
theorem dX6_findClashOver_40 : decode cX6_findClashOver 40 = .ok (.iload 7, 2) := by decide +kernel
theorem dX6_findClashOver_42 : decode cX6_findClashOver 42 = .ok (.aload_n 0, 1) := by decide +kernel
theorem dX6_findClashOver_43 : decode cX6_findClashOver 43 = .ok (.getfield 49, 3) := by decide +kernel
theorem dX6_findClashOver_46 : decode cX6_findClashOver 46 = .ok (.getfield 215, 3) := by decide +kernel
theorem dX6_findClashOver_49 : decode cX6_findClashOver 49 = .ok (.if_icmp .ge 118, 3) := by decide +kernel
theorem dX6_findClashOver_52 : decode cX6_findClashOver 52 = .ok (.aload_n 0, 1) := by decide +kernel
theorem dX6_findClashOver_53 : decode cX6_findClashOver 53 = .ok (.getfield 49, 3) := by decide +kernel
theorem dX6_findClashOver_56 : decode cX6_findClashOver 56 = .ok (.getfield 282, 3) := by decide +kernel
theorem dX6_findClashOver_59 : decode cX6_findClashOver 59 = .ok (.iload 7, 2) := by decide +kernel
theorem dX6_findClashOver_61 : decode cX6_findClashOver 61 = .ok (.iaload, 1) := by decide +kernel
theorem dX6_findClashOver_62 : decode cX6_findClashOver 62 = .ok (.istore 8, 2) := by decide +kernel
theorem dX6_findClashOver_64 : decode cX6_findClashOver 64 = .ok (.aload_n 0, 1) := by decide +kernel
theorem dX6_findClashOver_65 : decode cX6_findClashOver 65 = .ok (.getfield 49, 3) := by decide +kernel
theorem dX6_findClashOver_68 : decode cX6_findClashOver 68 = .ok (.iload 7, 2) := by decide +kernel
theorem dX6_findClashOver_70 : decode cX6_findClashOver 70 = .ok (.invokevirtual 199, 3) := by decide +kernel
theorem dX6_findClashOver_73 : decode cX6_findClashOver 73 = .ok (.istore 9, 2) := by decide +kernel
theorem dX6_findClashOver_75 : decode cX6_findClashOver 75 = .ok (.iload 9, 2) := by decide +kernel
theorem dX6_findClashOver_77 : decode cX6_findClashOver 77 = .ok (.iload 6, 2) := by decide +kernel
theorem dX6_findClashOver_79 : decode cX6_findClashOver 79 = .ok (.if_icmp .lt 15, 3) := by decide +kernel
theorem dX6_findClashOver_82 : decode cX6_findClashOver 82 = .ok (.iload 9, 2) := by decide +kernel
theorem dX6_findClashOver_84 : decode cX6_findClashOver 84 = .ok (.iload 6, 2) := by decide +kernel
theorem dX6_findClashOver_86 : decode cX6_findClashOver 86 = .ok (.if_icmp .ne 12, 3) := by decide +kernel
theorem dX6_findClashOver_89 : decode cX6_findClashOver 89 = .ok (.iload_n 2, 1) := by decide +kernel
theorem dX6_findClashOver_90 : decode cX6_findClashOver 90 = .ok (.iload_n 3, 1) := by decide +kernel
theorem dX6_findClashOver_91 : decode cX6_findClashOver 91 = .ok (.if_icmp .ge 7, 3) := by decide +kernel
theorem dX6_findClashOver_94 : decode cX6_findClashOver 94 = .ok (.iconst 1, 1) := by decide +kernel
theorem dX6_findClashOver_95 : decode cX6_findClashOver 95 = .ok (.goto 4, 3) := by decide +kernel
theorem dX6_findClashOver_98 : decode cX6_findClashOver 98 = .ok (.iconst 0, 1) := by decide +kernel
theorem dX6_findClashOver_99 : decode cX6_findClashOver 99 = .ok (.istore 10, 2) := by decide +kernel
theorem dX6_findClashOver_101 : decode cX6_findClashOver 101 = .ok (.iload 10, 2) := by decide +kernel
theorem dX6_findClashOver_103 : decode cX6_findClashOver 103 = .ok (.ifCond .eq 58, 3) := by decide +kernel
theorem dX6_findClashOver_106 : decode cX6_findClashOver 106 = .ok (.aload_n 0, 1) := by decide +kernel
theorem dX6_findClashOver_107 : decode cX6_findClashOver 107 = .ok (.getfield 49, 3) := by decide +kernel
theorem dX6_findClashOver_110 : decode cX6_findClashOver 110 = .ok (.iload 7, 2) := by decide +kernel
theorem dX6_findClashOver_112 : decode cX6_findClashOver 112 = .ok (.invokevirtual 202, 3) := by decide +kernel
theorem dX6_findClashOver_115 : decode cX6_findClashOver 115 = .ok (.ifCond .eq 46, 3) := by decide +kernel
theorem dX6_findClashOver_118 : decode cX6_findClashOver 118 = .ok (.aload_n 0, 1) := by decide +kernel
theorem dX6_findClashOver_119 : decode cX6_findClashOver 119 = .ok (.iload 8, 2) := by decide +kernel
theorem dX6_findClashOver_121 : decode cX6_findClashOver 121 = .ok (.iload 5, 2) := by decide +kernel
theorem dX6_findClashOver_123 : decode cX6_findClashOver 123 = .ok (.invokevirtual 285, 3) := by decide +kernel
theorem dX6_findClashOver_126 : decode cX6_findClashOver 126 = .ok (.ifCond .eq 35, 3) := by decide +kernel
theorem dX6_findClashOver_129 : decode cX6_findClashOver 129 = .ok (.aload_n 0, 1) := by decide +kernel
theorem dX6_findClashOver_130 : decode cX6_findClashOver 130 = .ok (.getfield 56, 3) := by decide +kernel
theorem dX6_findClashOver_133 : decode cX6_findClashOver 133 = .ok (.aload_n 0, 1) := by decide +kernel
theorem dX6_findClashOver_134 : decode cX6_findClashOver 134 = .ok (.getfield 56, 3) := by decide +kernel
theorem dX6_findClashOver_137 : decode cX6_findClashOver 137 = .ok (.iload 8, 2) := by decide +kernel
theorem dX6_findClashOver_139 : decode cX6_findClashOver 139 = .ok (.invokevirtual 193, 3) := by decide +kernel
theorem dX6_findClashOver_142 : decode cX6_findClashOver 142 = .ok (.invokevirtual 202, 3) := by decide +kernel
theorem dX6_findClashOver_145 : decode cX6_findClashOver 145 = .ok (.ifCond .eq 16, 3) := by decide +kernel
theorem dX6_findClashOver_148 : decode cX6_findClashOver 148 = .ok (.aload_n 0, 1) := by decide +kernel
theorem dX6_findClashOver_149 : decode cX6_findClashOver 149 = .ok (.getfield 62, 3) := by decide +kernel
theorem dX6_findClashOver_152 : decode cX6_findClashOver 152 = .ok (.iload 8, 2) := by decide +kernel
theorem dX6_findClashOver_154 : decode cX6_findClashOver 154 = .ok (.iload 5, 2) := by decide +kernel
theorem dX6_findClashOver_156 : decode cX6_findClashOver 156 = .ok (.iload 9, 2) := by decide +kernel
theorem dX6_findClashOver_158 : decode cX6_findClashOver 158 = .ok (.invokevirtual 297, 3) := by decide +kernel
theorem dX6_findClashOver_161 : decode cX6_findClashOver 161 = .ok (.iinc 7 1, 3) := by decide +kernel
theorem dX6_findClashOver_164 : decode cX6_findClashOver 164 = .ok (.goto (-124), 3) := by decide +kernel
theorem dX6_findClashOver_167 : decode cX6_findClashOver 167 = .ok (.return_, 1) := by decide +kernel
theorem dJ9_max_7cf53_0 : decode cJ9_max_7cf53 0 = .ok (.iload_n 0, 1) := by decide +kernel
theorem dJ9_max_7cf53_1 : decode cJ9_max_7cf53 1 = .ok (.iload_n 1, 1) := by decide +kernel
theorem dJ9_max_7cf53_2 : decode cJ9_max_7cf53 2 = .ok (.if_icmp .lt 7, 3) := by decide +kernel
theorem dJ9_max_7cf53_5 : decode cJ9_max_7cf53 5 = .ok (.iload_n 0, 1) := by decide +kernel
theorem dJ9_max_7cf53_6 : decode cJ9_max_7cf53 6 = .ok (.goto 4, 3) := by decide +kernel
theorem dJ9_max_7cf53_9 : decode cJ9_max_7cf53 9 = .ok (.iload_n 1, 1) := by decide +kernel
theorem dJ9_max_7cf53_10 : decode cJ9_max_7cf53 10 = .ok (.ireturn, 1) := by decide +kernel
theorem dJ9_min_7cf53_0 : decode cJ9_min_7cf53 0 = .ok (.iload_n 0, 1) := by decide +kernel
theorem dJ9_min_7cf53_1 : decode cJ9_min_7cf53 1 = .ok (.iload_n 1, 1) := by decide +kernel
theorem dJ9_min_7cf53_2 : decode cJ9_min_7cf53 2 = .ok (.if_icmp .gt 7, 3) := by decide +kernel
theorem dJ9_min_7cf53_5 : decode cJ9_min_7cf53 5 = .ok (.iload_n 0, 1) := by decide +kernel
theorem dJ9_min_7cf53_6 : decode cJ9_min_7cf53 6 = .ok (.goto 4, 3) := by decide +kernel
theorem dJ9_min_7cf53_9 : decode cJ9_min_7cf53 9 = .ok (.iload_n 1, 1) := by decide +kernel
theorem dJ9_min_7cf53_10 : decode cJ9_min_7cf53 10 = .ok (.ireturn, 1) := by decide +kernel
theorem dJ7_fill_53178_0 : decode cJ7_fill_53178 0 = .ok (.iconst 0, 1) := by decide +kernel
theorem dJ7_fill_53178_1 : decode cJ7_fill_53178 1 = .ok (.istore_n 2, 1) := by decide +kernel
theorem dJ7_fill_53178_2 : decode cJ7_fill_53178 2 = .ok (.aload_n 0, 1) := by decide +kernel
theorem dJ7_fill_53178_3 : decode cJ7_fill_53178 3 = .ok (.arraylength, 1) := by decide +kernel
theorem dJ7_fill_53178_4 : decode cJ7_fill_53178 4 = .ok (.istore_n 3, 1) := by decide +kernel
theorem dJ7_fill_53178_5 : decode cJ7_fill_53178 5 = .ok (.iload_n 2, 1) := by decide +kernel
theorem dJ7_fill_53178_6 : decode cJ7_fill_53178 6 = .ok (.iload_n 3, 1) := by decide +kernel
theorem dJ7_fill_53178_7 : decode cJ7_fill_53178 7 = .ok (.if_icmp .ge 13, 3) := by decide +kernel
theorem dJ7_fill_53178_10 : decode cJ7_fill_53178 10 = .ok (.aload_n 0, 1) := by decide +kernel
theorem dJ7_fill_53178_11 : decode cJ7_fill_53178 11 = .ok (.iload_n 2, 1) := by decide +kernel
theorem dJ7_fill_53178_12 : decode cJ7_fill_53178 12 = .ok (.iload_n 1, 1) := by decide +kernel
theorem dJ7_fill_53178_13 : decode cJ7_fill_53178 13 = .ok (.iastore, 1) := by decide +kernel
theorem dJ7_fill_53178_14 : decode cJ7_fill_53178 14 = .ok (.iinc 2 1, 3) := by decide +kernel
theorem dJ7_fill_53178_17 : decode cJ7_fill_53178 17 = .ok (.goto (-12), 3) := by decide +kernel
theorem dJ7_fill_53178_20 : decode cJ7_fill_53178 20 = .ok (.return_, 1) := by decide +kernel
