theorem dX0_init_0 : decode cX0_init 0 = .ok (.aload_n 0, 1) := by decide +kernel
theorem dX0_init_1 : decode cX0_init 1 = .ok (.invokespecial 3, 3) := by decide +kernel
theorem dX0_init_4 : decode cX0_init 4 = .ok (.return_, 1) := by decide +kernel
theorem dX0_clear_0 : decode cX0_clear 0 = .ok (.aload_n 0, 1) := by decide +kernel
theorem dX0_clear_1 : decode cX0_clear 1 = .ok (.iconst (-1), 1) := by decide +kernel
theorem dX0_clear_2 : decode cX0_clear 2 = .ok (.putfield 9, 3) := by decide +kernel
theorem dX0_clear_5 : decode cX0_clear 5 = .ok (.aload_n 0, 1) := by decide +kernel
theorem dX0_clear_6 : decode cX0_clear 6 = .ok (.iconst (-1), 1) := by decide +kernel
theorem dX0_clear_7 : decode cX0_clear 7 = .ok (.putfield 15, 3) := by decide +kernel
theorem dX0_clear_10 : decode cX0_clear 10 = .ok (.return_, 1) := by decide +kernel
theorem dX0_isThere_0 : decode cX0_isThere 0 = .ok (.aload_n 0, 1) := by decide +kernel
theorem dX0_isThere_1 : decode cX0_isThere 1 = .ok (.getfield 9, 3) := by decide +kernel
theorem dX0_isThere_4 : decode cX0_isThere 4 = .ok (.iconst (-1), 1) := by decide +kernel
theorem dX0_isThere_5 : decode cX0_isThere 5 = .ok (.if_icmp .eq 7, 3) := by decide +kernel
theorem dX0_isThere_8 : decode cX0_isThere 8 = .ok (.iconst 1, 1) := by decide +kernel
theorem dX0_isThere_9 : decode cX0_isThere 9 = .ok (.goto 4, 3) := by decide +kernel
theorem dX0_isThere_12 : decode cX0_isThere 12 = .ok (.iconst 0, 1) := by decide +kernel
theorem dX0_isThere_13 : decode cX0_isThere 13 = .ok (.ireturn, 1) := by decide +kernel
theorem dX0_add_0 : decode cX0_add 0 = .ok (.sipush 360, 3) := by decide +kernel
theorem dX0_add_3 : decode cX0_add 3 = .ok (.iload_n 1, 1) := by decide +kernel
theorem dX0_add_4 : decode cX0_add 4 = .ok (.imul, 1) := by decide +kernel
theorem dX0_add_5 : decode cX0_add 5 = .ok (.iload_n 2, 1) := by decide +kernel
theorem dX0_add_6 : decode cX0_add 6 = .ok (.iadd, 1) := by decide +kernel
theorem dX0_add_7 : decode cX0_add 7 = .ok (.istore 4, 2) := by decide +kernel
theorem dX0_add_9 : decode cX0_add 9 = .ok (.aload_n 0, 1) := by decide +kernel
theorem dX0_add_10 : decode cX0_add 10 = .ok (.getfield 9, 3) := by decide +kernel
theorem dX0_add_13 : decode cX0_add 13 = .ok (.iconst (-1), 1) := by decide +kernel
theorem dX0_add_14 : decode cX0_add 14 = .ok (.if_icmp .eq 12, 3) := by decide +kernel
theorem dX0_add_17 : decode cX0_add 17 = .ok (.iload 4, 2) := by decide +kernel
theorem dX0_add_19 : decode cX0_add 19 = .ok (.aload_n 0, 1) := by decide +kernel
theorem dX0_add_20 : decode cX0_add 20 = .ok (.getfield 9, 3) := by decide +kernel
theorem dX0_add_23 : decode cX0_add 23 = .ok (.if_icmp .ge 9, 3) := by decide +kernel
theorem dX0_add_26 : decode cX0_add 26 = .ok (.aload_n 0, 1) := by decide +kernel
theorem dX0_add_27 : decode cX0_add 27 = .ok (.iload 4, 2) := by decide +kernel
theorem dX0_add_29 : decode cX0_add 29 = .ok (.putfield 9, 3) := by decide +kernel
theorem dX0_add_32 : decode cX0_add 32 = .ok (.aload_n 0, 1) := by decide +kernel
theorem dX0_add_33 : decode cX0_add 33 = .ok (.getfield 15, 3) := by decide +kernel
theorem dX0_add_36 : decode cX0_add 36 = .ok (.iconst (-1), 1) := by decide +kernel
theorem dX0_add_37 : decode cX0_add 37 = .ok (.if_icmp .eq 11, 3) := by decide +kernel
theorem dX0_add_40 : decode cX0_add 40 = .ok (.iload_n 3, 1) := by decide +kernel
theorem dX0_add_41 : decode cX0_add 41 = .ok (.aload_n 0, 1) := by decide +kernel
theorem dX0_add_42 : decode cX0_add 42 = .ok (.getfield 15, 3) := by decide +kernel
theorem dX0_add_45 : decode cX0_add 45 = .ok (.if_icmp .ge 8, 3) := by decide +kernel
theorem dX0_add_48 : decode cX0_add 48 = .ok (.aload_n 0, 1) := by decide +kernel
theorem dX0_add_49 : decode cX0_add 49 = .ok (.iload_n 3, 1) := by decide +kernel
theorem dX0_add_50 : decode cX0_add 50 = .ok (.putfield 15, 3) := by decide +kernel
theorem dX0_add_53 : decode cX0_add 53 = .ok (.return_, 1) := by decide +kernel
theorem dX1_init_0 : decode cX1_init 0 = .ok (.aload_n 0, 1) := by decide +kernel
theorem dX1_init_1 : decode cX1_init 1 = .ok (.invokespecial 3, 3) := by decide +kernel
theorem dX1_init_4 : decode cX1_init 4 = .ok (.aload_n 0, 1) := by decide +kernel
theorem dX1_init_5 : decode cX1_init 5 = .ok (.bipush 40, 2) := by decide +kernel
theorem dX1_init_7 : decode cX1_init 7 = .ok (.newarray .int, 2) := by decide +kernel
theorem dX1_init_9 : decode cX1_init 9 = .ok (.putfield 9, 3) := by decide +kernel
theorem dX1_init_12 : decode cX1_init 12 = .ok (.aload_n 0, 1) := by decide +kernel
theorem dX1_init_13 : decode cX1_init 13 = .ok (.iconst 0, 1) := by decide +kernel
theorem dX1_init_14 : decode cX1_init 14 = .ok (.putfield 15, 3) := by decide +kernel
theorem dX1_init_17 : decode cX1_init 17 = .ok (.aload_n 0, 1) := by decide +kernel
theorem dX1_init_18 : decode cX1_init 18 = .ok (.iconst 0, 1) := by decide +kernel
theorem dX1_init_19 : decode cX1_init 19 = .ok (.putfield 19, 3) := by decide +kernel
theorem dX1_init_22 : decode cX1_init 22 = .ok (.aload_n 0, 1) := by decide +kernel
theorem dX1_init_23 : decode cX1_init 23 = .ok (.iload_n 1, 1) := by decide +kernel
theorem dX1_init_24 : decode cX1_init 24 = .ok (.putfield 22, 3) := by decide +kernel
theorem dX1_init_27 : decode cX1_init 27 = .ok (.aload_n 0, 1) := by decide +kernel
theorem dX1_init_28 : decode cX1_init 28 = .ok (.iload_n 2, 1) := by decide +kernel
theorem dX1_init_29 : decode cX1_init 29 = .ok (.putfield 25, 3) := by decide +kernel
theorem dX1_init_32 : decode cX1_init 32 = .ok (.aload_n 0, 1) := by decide +kernel
theorem dX1_init_33 : decode cX1_init 33 = .ok (.iload_n 1, 1) := by decide +kernel
theorem dX1_init_34 : decode cX1_init 34 = .ok (.iconst 1, 1) := by decide +kernel
theorem dX1_init_35 : decode cX1_init 35 = .ok (.if_icmp .eq 8, 3) := by decide +kernel
theorem dX1_init_38 : decode cX1_init 38 = .ok (.iload_n 1, 1) := by decide +kernel
theorem dX1_init_39 : decode cX1_init 39 = .ok (.iconst 2, 1) := by decide +kernel
theorem dX1_init_40 : decode cX1_init 40 = .ok (.if_icmp .ne 8, 3) := by decide +kernel
theorem dX1_init_43 : decode cX1_init 43 = .ok (.bipush 12, 2) := by decide +kernel
theorem dX1_init_45 : decode cX1_init 45 = .ok (.goto 4, 3) := by decide +kernel
theorem dX1_init_48 : decode cX1_init 48 = .ok (.iconst 0, 1) := by decide +kernel
theorem dX1_init_49 : decode cX1_init 49 = .ok (.newarray .int, 2) := by decide +kernel
theorem dX1_init_51 : decode cX1_init 51 = .ok (.putfield 28, 3) := by decide +kernel
theorem dX1_init_54 : decode cX1_init 54 = .ok (.return_, 1) := by decide +kernel
theorem dX1_hasPicture_0 : decode cX1_hasPicture 0 = .ok (.aload_n 0, 1) := by decide +kernel
theorem dX1_hasPicture_1 : decode cX1_hasPicture 1 = .ok (.getfield 22, 3) := by decide +kernel
theorem dX1_hasPicture_4 : decode cX1_hasPicture 4 = .ok (.iconst 1, 1) := by decide +kernel
theorem dX1_hasPicture_5 : decode cX1_hasPicture 5 = .ok (.if_icmp .eq 11, 3) := by decide +kernel
theorem dX1_hasPicture_8 : decode cX1_hasPicture 8 = .ok (.aload_n 0, 1) := by decide +kernel
theorem dX1_hasPicture_9 : decode cX1_hasPicture 9 = .ok (.getfield 22, 3) := by decide +kernel
theorem dX1_hasPicture_12 : decode cX1_hasPicture 12 = .ok (.iconst 2, 1) := by decide +kernel
theorem dX1_hasPicture_13 : decode cX1_hasPicture 13 = .ok (.if_icmp .ne 7, 3) := by decide +kernel
theorem dX1_hasPicture_16 : decode cX1_hasPicture 16 = .ok (.iconst 1, 1) := by decide +kernel
theorem dX1_hasPicture_17 : decode cX1_hasPicture 17 = .ok (.goto 4, 3) := by decide +kernel
theorem dX1_hasPicture_20 : decode cX1_hasPicture 20 = .ok (.iconst 0, 1) := by decide +kernel
theorem dX1_hasPicture_21 : decode cX1_hasPicture 21 = .ok (.ireturn, 1) := by decide +kernel
theorem dX1_addLetter_0 : decode cX1_addLetter 0 = .ok (.aload_n 0, 1) := by decide +kernel
theorem dX1_addLetter_1 : decode cX1_addLetter 1 = .ok (.getfield 15, 3) := by decide +kernel
theorem dX1_addLetter_4 : decode cX1_addLetter 4 = .ok (.aload_n 0, 1) := by decide +kernel
theorem dX1_addLetter_5 : decode cX1_addLetter 5 = .ok (.getfield 9, 3) := by decide +kernel
theorem dX1_addLetter_8 : decode cX1_addLetter 8 = .ok (.arraylength, 1) := by decide +kernel
theorem dX1_addLetter_9 : decode cX1_addLetter 9 = .ok (.if_icmp .lt 5, 3) := by decide +kernel
theorem dX1_addLetter_12 : decode cX1_addLetter 12 = .ok (.iconst (-1), 1) := by decide +kernel
theorem dX1_addLetter_13 : decode cX1_addLetter 13 = .ok (.ireturn, 1) := by decide +kernel
theorem dX1_addLetter_14 : decode cX1_addLetter 14 = .ok (.aload_n 0, 1) := by decide +kernel
theorem dX1_addLetter_15 : decode cX1_addLetter 15 = .ok (.getfield 9, 3) := by decide +kernel
theorem dX1_addLetter_18 : decode cX1_addLetter 18 = .ok (.aload_n 0, 1) := by decide +kernel
theorem dX1_addLetter_19 : decode cX1_addLetter 19 = .ok (.getfield 15, 3) := by decide +kernel
theorem dX1_addLetter_22 : decode cX1_addLetter 22 = .ok (.iload_n 1, 1) := by decide +kernel
theorem dX1_addLetter_23 : decode cX1_addLetter 23 = .ok (.iastore, 1) := by decide +kernel
theorem dX1_addLetter_24 : decode cX1_addLetter 24 = .ok (.aload_n 0, 1) := by decide +kernel
theorem dX1_addLetter_25 : decode cX1_addLetter 25 = .ok (.dup, 1) := by decide +kernel
theorem dX1_addLetter_26 : decode cX1_addLetter 26 = .ok (.getfield 15, 3) := by decide +kernel
theorem dX1_addLetter_29 : decode cX1_addLetter 29 = .ok (.iconst 1, 1) := by decide +kernel
theorem dX1_addLetter_30 : decode cX1_addLetter 30 = .ok (.iadd, 1) := by decide +kernel
theorem dX1_addLetter_31 : decode cX1_addLetter 31 = .ok (.putfield 15, 3) := by decide +kernel
theorem dX1_addLetter_34 : decode cX1_addLetter 34 = .ok (.aload_n 0, 1) := by decide +kernel
theorem dX1_addLetter_35 : decode cX1_addLetter 35 = .ok (.getfield 15, 3) := by decide +kernel
theorem dX1_addLetter_38 : decode cX1_addLetter 38 = .ok (.ireturn, 1) := by decide +kernel
theorem dX1_addCode_0 : decode cX1_addCode 0 = .ok (.aload_n 0, 1) := by decide +kernel
theorem dX1_addCode_1 : decode cX1_addCode 1 = .ok (.getfield 19, 3) := by decide +kernel
theorem dX1_addCode_4 : decode cX1_addCode 4 = .ok (.aload_n 0, 1) := by decide +kernel
theorem dX1_addCode_5 : decode cX1_addCode 5 = .ok (.getfield 28, 3) := by decide +kernel
theorem dX1_addCode_8 : decode cX1_addCode 8 = .ok (.arraylength, 1) := by decide +kernel
theorem dX1_addCode_9 : decode cX1_addCode 9 = .ok (.if_icmp .ge 11, 3) := by decide +kernel
theorem dX1_addCode_12 : decode cX1_addCode 12 = .ok (.aload_n 0, 1) := by decide +kernel
theorem dX1_addCode_13 : decode cX1_addCode 13 = .ok (.iload_n 1, 1) := by decide +kernel
theorem dX1_addCode_14 : decode cX1_addCode 14 = .ok (.invokevirtual 31, 3) := by decide +kernel
theorem dX1_addCode_17 : decode cX1_addCode 17 = .ok (.ifCond .eq 5, 3) := by decide +kernel
theorem dX1_addCode_20 : decode cX1_addCode 20 = .ok (.iconst (-1), 1) := by decide +kernel
theorem dX1_addCode_21 : decode cX1_addCode 21 = .ok (.ireturn, 1) := by decide +kernel
theorem dX1_addCode_22 : decode cX1_addCode 22 = .ok (.aload_n 0, 1) := by decide +kernel
theorem dX1_addCode_23 : decode cX1_addCode 23 = .ok (.getfield 28, 3) := by decide +kernel
theorem dX1_addCode_26 : decode cX1_addCode 26 = .ok (.aload_n 0, 1) := by decide +kernel
theorem dX1_addCode_27 : decode cX1_addCode 27 = .ok (.getfield 19, 3) := by decide +kernel
theorem dX1_addCode_30 : decode cX1_addCode 30 = .ok (.iload_n 1, 1) := by decide +kernel
theorem dX1_addCode_31 : decode cX1_addCode 31 = .ok (.iastore, 1) := by decide +kernel
theorem dX1_addCode_32 : decode cX1_addCode 32 = .ok (.aload_n 0, 1) := by decide +kernel
theorem dX1_addCode_33 : decode cX1_addCode 33 = .ok (.dup, 1) := by decide +kernel
theorem dX1_addCode_34 : decode cX1_addCode 34 = .ok (.getfield 19, 3) := by decide +kernel
theorem dX1_addCode_37 : decode cX1_addCode 37 = .ok (.iconst 1, 1) := by decide +kernel
theorem dX1_addCode_38 : decode cX1_addCode 38 = .ok (.iadd, 1) := by decide +kernel
theorem dX1_addCode_39 : decode cX1_addCode 39 = .ok (.putfield 19, 3) := by decide +kernel
theorem dX1_addCode_42 : decode cX1_addCode 42 = .ok (.aload_n 0, 1) := by decide +kernel
theorem dX1_addCode_43 : decode cX1_addCode 43 = .ok (.getfield 19, 3) := by decide +kernel
theorem dX1_addCode_46 : decode cX1_addCode 46 = .ok (.ireturn, 1) := by decide +kernel
theorem dX1_likeOfPictures_0 : decode cX1_likeOfPictures 0 = .ok (.aload_n 0, 1) := by decide +kernel
theorem dX1_likeOfPictures_1 : decode cX1_likeOfPictures 1 = .ok (.getfield 19, 3) := by decide +kernel
theorem dX1_likeOfPictures_4 : decode cX1_likeOfPictures 4 = .ok (.aload_n 1, 1) := by decide +kernel
theorem dX1_likeOfPictures_5 : decode cX1_likeOfPictures 5 = .ok (.getfield 19, 3) := by decide +kernel
theorem dX1_likeOfPictures_8 : decode cX1_likeOfPictures 8 = .ok (.invokestatic 35, 3) := by decide +kernel
theorem dX1_likeOfPictures_11 : decode cX1_likeOfPictures 11 = .ok (.istore_n 2, 1) := by decide +kernel
theorem dX1_likeOfPictures_12 : decode cX1_likeOfPictures 12 = .ok (.iload_n 2, 1) := by decide +kernel
theorem dX1_likeOfPictures_13 : decode cX1_likeOfPictures 13 = .ok (.ifCond .ne 5, 3) := by decide +kernel
theorem dX1_likeOfPictures_16 : decode cX1_likeOfPictures 16 = .ok (.iconst 0, 1) := by decide +kernel
theorem dX1_likeOfPictures_17 : decode cX1_likeOfPictures 17 = .ok (.ireturn, 1) := by decide +kernel
theorem dX1_likeOfPictures_18 : decode cX1_likeOfPictures 18 = .ok (.iconst 0, 1) := by decide +kernel
theorem dX1_likeOfPictures_19 : decode cX1_likeOfPictures 19 = .ok (.istore_n 3, 1) := by decide +kernel
theorem dX1_likeOfPictures_20 : decode cX1_likeOfPictures 20 = .ok (.iconst 0, 1) := by decide +kernel
theorem dX1_likeOfPictures_21 : decode cX1_likeOfPictures 21 = .ok (.istore 4, 2) := by decide +kernel
theorem dX1_likeOfPictures_23 : decode cX1_likeOfPictures 23 = .ok (.iload 4, 2) := by decide +kernel
theorem dX1_likeOfPictures_25 : decode cX1_likeOfPictures 25 = .ok (.aload_n 0, 1) := by decide +kernel
theorem dX1_likeOfPictures_26 : decode cX1_likeOfPictures 26 = .ok (.getfield 19, 3) := by decide +kernel
theorem dX1_likeOfPictures_29 : decode cX1_likeOfPictures 29 = .ok (.if_icmp .ge 26, 3) := by decide +kernel
theorem dX1_likeOfPictures_32 : decode cX1_likeOfPictures 32 = .ok (.aload_n 1, 1) := by decide +kernel
theorem dX1_likeOfPictures_33 : decode cX1_likeOfPictures 33 = .ok (.aload_n 0, 1) := by decide +kernel
theorem dX1_likeOfPictures_34 : decode cX1_likeOfPictures 34 = .ok (.getfield 28, 3) := by decide +kernel
theorem dX1_likeOfPictures_37 : decode cX1_likeOfPictures 37 = .ok (.iload 4, 2) := by decide +kernel
theorem dX1_likeOfPictures_39 : decode cX1_likeOfPictures 39 = .ok (.iaload, 1) := by decide +kernel
theorem dX1_likeOfPictures_40 : decode cX1_likeOfPictures 40 = .ok (.invokevirtual 31, 3) := by decide +kernel
theorem dX1_likeOfPictures_43 : decode cX1_likeOfPictures 43 = .ok (.ifCond .eq 6, 3) := by decide +kernel
theorem dX1_likeOfPictures_46 : decode cX1_likeOfPictures 46 = .ok (.iinc 3 1, 3) := by decide +kernel
theorem dX1_likeOfPictures_49 : decode cX1_likeOfPictures 49 = .ok (.iinc 4 1, 3) := by decide +kernel
theorem dX1_likeOfPictures_52 : decode cX1_likeOfPictures 52 = .ok (.goto (-29), 3) := by decide +kernel
theorem dX1_likeOfPictures_55 : decode cX1_likeOfPictures 55 = .ok (.sipush 1000, 3) := by decide +kernel
theorem dX1_likeOfPictures_58 : decode cX1_likeOfPictures 58 = .ok (.iload_n 3, 1) := by decide +kernel
theorem dX1_likeOfPictures_59 : decode cX1_likeOfPictures 59 = .ok (.imul, 1) := by decide +kernel
theorem dX1_likeOfPictures_60 : decode cX1_likeOfPictures 60 = .ok (.iload_n 2, 1) := by decide +kernel
theorem dX1_likeOfPictures_61 : decode cX1_likeOfPictures 61 = .ok (.idiv, 1) := by decide +kernel
theorem dX1_likeOfPictures_62 : decode cX1_likeOfPictures 62 = .ok (.ireturn, 1) := by decide +kernel
theorem dX1_hasCode_0 : decode cX1_hasCode 0 = .ok (.iconst 0, 1) := by decide +kernel
theorem dX1_hasCode_1 : decode cX1_hasCode 1 = .ok (.istore_n 2, 1) := by decide +kernel
theorem dX1_hasCode_2 : decode cX1_hasCode 2 = .ok (.iload_n 2, 1) := by decide +kernel
theorem dX1_hasCode_3 : decode cX1_hasCode 3 = .ok (.aload_n 0, 1) := by decide +kernel
theorem dX1_hasCode_4 : decode cX1_hasCode 4 = .ok (.getfield 19, 3) := by decide +kernel
theorem dX1_hasCode_7 : decode cX1_hasCode 7 = .ok (.if_icmp .ge 21, 3) := by decide +kernel
theorem dX1_hasCode_10 : decode cX1_hasCode 10 = .ok (.aload_n 0, 1) := by decide +kernel
theorem dX1_hasCode_11 : decode cX1_hasCode 11 = .ok (.getfield 28, 3) := by decide +kernel
theorem dX1_hasCode_14 : decode cX1_hasCode 14 = .ok (.iload_n 2, 1) := by decide +kernel
theorem dX1_hasCode_15 : decode cX1_hasCode 15 = .ok (.iaload, 1) := by decide +kernel
theorem dX1_hasCode_16 : decode cX1_hasCode 16 = .ok (.iload_n 1, 1) := by decide +kernel
theorem dX1_hasCode_17 : decode cX1_hasCode 17 = .ok (.if_icmp .ne 5, 3) := by decide +kernel
theorem dX1_hasCode_20 : decode cX1_hasCode 20 = .ok (.iconst 1, 1) := by decide +kernel
theorem dX1_hasCode_21 : decode cX1_hasCode 21 = .ok (.ireturn, 1) := by decide +kernel
theorem dX1_hasCode_22 : decode cX1_hasCode 22 = .ok (.iinc 2 1, 3) := by decide +kernel
theorem dX1_hasCode_25 : decode cX1_hasCode 25 = .ok (.goto (-23), 3) := by decide +kernel
theorem dX1_hasCode_28 : decode cX1_hasCode 28 = .ok (.iconst 0, 1) := by decide +kernel
theorem dX1_hasCode_29 : decode cX1_hasCode 29 = .ok (.ireturn, 1) := by decide +kernel
theorem dX2_init_0 : decode cX2_init 0 = .ok (.aload_n 0, 1) := by decide +kernel
theorem dX2_init_1 : decode cX2_init 1 = .ok (.invokespecial 3, 3) := by decide +kernel
theorem dX2_init_4 : decode cX2_init 4 = .ok (.aload_n 0, 1) := by decide +kernel
theorem dX2_init_5 : decode cX2_init 5 = .ok (.bipush 100, 2) := by decide +kernel
theorem dX2_init_7 : decode cX2_init 7 = .ok (.newarray .int, 2) := by decide +kernel
theorem dX2_init_9 : decode cX2_init 9 = .ok (.putfield 11, 3) := by decide +kernel
theorem dX2_init_12 : decode cX2_init 12 = .ok (.aload_n 0, 1) := by decide +kernel
theorem dX2_init_13 : decode cX2_init 13 = .ok (.bipush 100, 2) := by decide +kernel
theorem dX2_init_15 : decode cX2_init 15 = .ok (.newarray .int, 2) := by decide +kernel
theorem dX2_init_17 : decode cX2_init 17 = .ok (.putfield 15, 3) := by decide +kernel
theorem dX2_init_20 : decode cX2_init 20 = .ok (.aload_n 0, 1) := by decide +kernel
theorem dX2_init_21 : decode cX2_init 21 = .ok (.bipush 100, 2) := by decide +kernel
theorem dX2_init_23 : decode cX2_init 23 = .ok (.newarray .int, 2) := by decide +kernel
theorem dX2_init_25 : decode cX2_init 25 = .ok (.putfield 18, 3) := by decide +kernel
theorem dX2_init_28 : decode cX2_init 28 = .ok (.aload_n 0, 1) := by decide +kernel
theorem dX2_init_29 : decode cX2_init 29 = .ok (.iconst 0, 1) := by decide +kernel
theorem dX2_init_30 : decode cX2_init 30 = .ok (.putfield 21, 3) := by decide +kernel
theorem dX2_init_33 : decode cX2_init 33 = .ok (.return_, 1) := by decide +kernel
theorem dX2_nearOf_0 : decode cX2_nearOf 0 = .ok (.iload_n 1, 1) := by decide +kernel
theorem dX2_nearOf_1 : decode cX2_nearOf 1 = .ok (.iload_n 2, 1) := by decide +kernel
theorem dX2_nearOf_2 : decode cX2_nearOf 2 = .ok (.if_icmp .ne 7, 3) := by decide +kernel
theorem dX2_nearOf_5 : decode cX2_nearOf 5 = .ok (.sipush 1000, 3) := by decide +kernel
theorem dX2_nearOf_8 : decode cX2_nearOf 8 = .ok (.ireturn, 1) := by decide +kernel
theorem dX2_nearOf_9 : decode cX2_nearOf 9 = .ok (.aload_n 0, 1) := by decide +kernel
theorem dX2_nearOf_10 : decode cX2_nearOf 10 = .ok (.iload_n 1, 1) := by decide +kernel
theorem dX2_nearOf_11 : decode cX2_nearOf 11 = .ok (.iload_n 2, 1) := by decide +kernel
theorem dX2_nearOf_12 : decode cX2_nearOf 12 = .ok (.invokevirtual 25, 3) := by decide +kernel
theorem dX2_nearOf_15 : decode cX2_nearOf 15 = .ok (.istore_n 3, 1) := by decide +kernel
theorem dX2_nearOf_16 : decode cX2_nearOf 16 = .ok (.iload_n 3, 1) := by decide +kernel
theorem dX2_nearOf_17 : decode cX2_nearOf 17 = .ok (.iconst (-1), 1) := by decide +kernel
theorem dX2_nearOf_18 : decode cX2_nearOf 18 = .ok (.if_icmp .ne 7, 3) := by decide +kernel
theorem dX2_nearOf_21 : decode cX2_nearOf 21 = .ok (.iconst 0, 1) := by decide +kernel
theorem dX2_nearOf_22 : decode cX2_nearOf 22 = .ok (.goto 9, 3) := by decide +kernel
theorem dX2_nearOf_25 : decode cX2_nearOf 25 = .ok (.aload_n 0, 1) := by decide +kernel
theorem dX2_nearOf_26 : decode cX2_nearOf 26 = .ok (.getfield 18, 3) := by decide +kernel
theorem dX2_nearOf_29 : decode cX2_nearOf 29 = .ok (.iload_n 3, 1) := by decide +kernel
theorem dX2_nearOf_30 : decode cX2_nearOf 30 = .ok (.iaload, 1) := by decide +kernel
theorem dX2_nearOf_31 : decode cX2_nearOf 31 = .ok (.ireturn, 1) := by decide +kernel
theorem dX2_tell_0 : decode cX2_tell 0 = .ok (.aload_n 0, 1) := by decide +kernel
theorem dX2_tell_1 : decode cX2_tell 1 = .ok (.iload_n 1, 1) := by decide +kernel
theorem dX2_tell_2 : decode cX2_tell 2 = .ok (.iload_n 2, 1) := by decide +kernel
theorem dX2_tell_3 : decode cX2_tell 3 = .ok (.invokevirtual 25, 3) := by decide +kernel
theorem dX2_tell_6 : decode cX2_tell 6 = .ok (.istore 4, 2) := by decide +kernel
theorem dX2_tell_8 : decode cX2_tell 8 = .ok (.iload_n 3, 1) := by decide +kernel
theorem dX2_tell_9 : decode cX2_tell 9 = .ok (.ifCond .ne 11, 3) := by decide +kernel
theorem dX2_tell_12 : decode cX2_tell 12 = .ok (.aload_n 0, 1) := by decide +kernel
theorem dX2_tell_13 : decode cX2_tell 13 = .ok (.iload 4, 2) := by decide +kernel
theorem dX2_tell_15 : decode cX2_tell 15 = .ok (.invokevirtual 29, 3) := by decide +kernel
theorem dX2_tell_18 : decode cX2_tell 18 = .ok (.iconst 1, 1) := by decide +kernel
theorem dX2_tell_19 : decode cX2_tell 19 = .ok (.ireturn, 1) := by decide +kernel
theorem dX2_tell_20 : decode cX2_tell 20 = .ok (.iload 4, 2) := by decide +kernel
theorem dX2_tell_22 : decode cX2_tell 22 = .ok (.iconst (-1), 1) := by decide +kernel
theorem dX2_tell_23 : decode cX2_tell 23 = .ok (.if_icmp .ne 11, 3) := by decide +kernel
theorem dX2_tell_26 : decode cX2_tell 26 = .ok (.aload_n 0, 1) := by decide +kernel
theorem dX2_tell_27 : decode cX2_tell 27 = .ok (.iload_n 1, 1) := by decide +kernel
theorem dX2_tell_28 : decode cX2_tell 28 = .ok (.iload_n 2, 1) := by decide +kernel
theorem dX2_tell_29 : decode cX2_tell 29 = .ok (.iload_n 3, 1) := by decide +kernel
theorem dX2_tell_30 : decode cX2_tell 30 = .ok (.invokevirtual 33, 3) := by decide +kernel
theorem dX2_tell_33 : decode cX2_tell 33 = .ok (.ireturn, 1) := by decide +kernel
theorem dX2_tell_34 : decode cX2_tell 34 = .ok (.aload_n 0, 1) := by decide +kernel
theorem dX2_tell_35 : decode cX2_tell 35 = .ok (.getfield 18, 3) := by decide +kernel
theorem dX2_tell_38 : decode cX2_tell 38 = .ok (.iload 4, 2) := by decide +kernel
theorem dX2_tell_40 : decode cX2_tell 40 = .ok (.iload_n 3, 1) := by decide +kernel
theorem dX2_tell_41 : decode cX2_tell 41 = .ok (.iastore, 1) := by decide +kernel
theorem dX2_tell_42 : decode cX2_tell 42 = .ok (.iconst 1, 1) := by decide +kernel
theorem dX2_tell_43 : decode cX2_tell 43 = .ok (.ireturn, 1) := by decide +kernel
theorem dX2_find_0 : decode cX2_find 0 = .ok (.iconst 0, 1) := by decide +kernel
theorem dX2_find_1 : decode cX2_find 1 = .ok (.istore_n 3, 1) := by decide +kernel
theorem dX2_find_2 : decode cX2_find 2 = .ok (.iload_n 3, 1) := by decide +kernel
theorem dX2_find_3 : decode cX2_find 3 = .ok (.aload_n 0, 1) := by decide +kernel
theorem dX2_find_4 : decode cX2_find 4 = .ok (.getfield 21, 3) := by decide +kernel
theorem dX2_find_7 : decode cX2_find 7 = .ok (.if_icmp .ge 51, 3) := by decide +kernel
theorem dX2_find_10 : decode cX2_find 10 = .ok (.aload_n 0, 1) := by decide +kernel
theorem dX2_find_11 : decode cX2_find 11 = .ok (.getfield 11, 3) := by decide +kernel
theorem dX2_find_14 : decode cX2_find 14 = .ok (.iload_n 3, 1) := by decide +kernel
theorem dX2_find_15 : decode cX2_find 15 = .ok (.iaload, 1) := by decide +kernel
theorem dX2_find_16 : decode cX2_find 16 = .ok (.iload_n 1, 1) := by decide +kernel
theorem dX2_find_17 : decode cX2_find 17 = .ok (.if_icmp .ne 13, 3) := by decide +kernel
theorem dX2_find_20 : decode cX2_find 20 = .ok (.aload_n 0, 1) := by decide +kernel
theorem dX2_find_21 : decode cX2_find 21 = .ok (.getfield 15, 3) := by decide +kernel
theorem dX2_find_24 : decode cX2_find 24 = .ok (.iload_n 3, 1) := by decide +kernel
theorem dX2_find_25 : decode cX2_find 25 = .ok (.iaload, 1) := by decide +kernel
theorem dX2_find_26 : decode cX2_find 26 = .ok (.iload_n 2, 1) := by decide +kernel
theorem dX2_find_27 : decode cX2_find 27 = .ok (.if_icmp .eq 23, 3) := by decide +kernel
theorem dX2_find_30 : decode cX2_find 30 = .ok (.aload_n 0, 1) := by decide +kernel
theorem dX2_find_31 : decode cX2_find 31 = .ok (.getfield 11, 3) := by decide +kernel
theorem dX2_find_34 : decode cX2_find 34 = .ok (.iload_n 3, 1) := by decide +kernel
theorem dX2_find_35 : decode cX2_find 35 = .ok (.iaload, 1) := by decide +kernel
theorem dX2_find_36 : decode cX2_find 36 = .ok (.iload_n 2, 1) := by decide +kernel
theorem dX2_find_37 : decode cX2_find 37 = .ok (.if_icmp .ne 15, 3) := by decide +kernel
theorem dX2_find_40 : decode cX2_find 40 = .ok (.aload_n 0, 1) := by decide +kernel
theorem dX2_find_41 : decode cX2_find 41 = .ok (.getfield 15, 3) := by decide +kernel
theorem dX2_find_44 : decode cX2_find 44 = .ok (.iload_n 3, 1) := by decide +kernel
theorem dX2_find_45 : decode cX2_find 45 = .ok (.iaload, 1) := by decide +kernel
theorem dX2_find_46 : decode cX2_find 46 = .ok (.iload_n 1, 1) := by decide +kernel
theorem dX2_find_47 : decode cX2_find 47 = .ok (.if_icmp .ne 5, 3) := by decide +kernel
theorem dX2_find_50 : decode cX2_find 50 = .ok (.iload_n 3, 1) := by decide +kernel
theorem dX2_find_51 : decode cX2_find 51 = .ok (.ireturn, 1) := by decide +kernel
theorem dX2_find_52 : decode cX2_find 52 = .ok (.iinc 3 1, 3) := by decide +kernel
theorem dX2_find_55 : decode cX2_find 55 = .ok (.goto (-53), 3) := by decide +kernel
theorem dX2_find_58 : decode cX2_find 58 = .ok (.iconst (-1), 1) := by decide +kernel
theorem dX2_find_59 : decode cX2_find 59 = .ok (.ireturn, 1) := by decide +kernel
theorem dX2_append_0 : decode cX2_append 0 = .ok (.aload_n 0, 1) := by decide +kernel
theorem dX2_append_1 : decode cX2_append 1 = .ok (.getfield 21, 3) := by decide +kernel
theorem dX2_append_4 : decode cX2_append 4 = .ok (.bipush 100, 2) := by decide +kernel
theorem dX2_append_6 : decode cX2_append 6 = .ok (.if_icmp .lt 5, 3) := by decide +kernel
theorem dX2_append_9 : decode cX2_append 9 = .ok (.iconst 0, 1) := by decide +kernel
theorem dX2_append_10 : decode cX2_append 10 = .ok (.ireturn, 1) := by decide +kernel
theorem dX2_append_11 : decode cX2_append 11 = .ok (.aload_n 0, 1) := by decide +kernel
theorem dX2_append_12 : decode cX2_append 12 = .ok (.getfield 11, 3) := by decide +kernel
theorem dX2_append_15 : decode cX2_append 15 = .ok (.aload_n 0, 1) := by decide +kernel
theorem dX2_append_16 : decode cX2_append 16 = .ok (.getfield 21, 3) := by decide +kernel
theorem dX2_append_19 : decode cX2_append 19 = .ok (.iload_n 1, 1) := by decide +kernel
theorem dX2_append_20 : decode cX2_append 20 = .ok (.iastore, 1) := by decide +kernel
theorem dX2_append_21 : decode cX2_append 21 = .ok (.aload_n 0, 1) := by decide +kernel
theorem dX2_append_22 : decode cX2_append 22 = .ok (.getfield 15, 3) := by decide +kernel
theorem dX2_append_25 : decode cX2_append 25 = .ok (.aload_n 0, 1) := by decide +kernel
theorem dX2_append_26 : decode cX2_append 26 = .ok (.getfield 21, 3) := by decide +kernel
theorem dX2_append_29 : decode cX2_append 29 = .ok (.iload_n 2, 1) := by decide +kernel
theorem dX2_append_30 : decode cX2_append 30 = .ok (.iastore, 1) := by decide +kernel
theorem dX2_append_31 : decode cX2_append 31 = .ok (.aload_n 0, 1) := by decide +kernel
theorem dX2_append_32 : decode cX2_append 32 = .ok (.getfield 18, 3) := by decide +kernel
theorem dX2_append_35 : decode cX2_append 35 = .ok (.aload_n 0, 1) := by decide +kernel
theorem dX2_append_36 : decode cX2_append 36 = .ok (.getfield 21, 3) := by decide +kernel
theorem dX2_append_39 : decode cX2_append 39 = .ok (.iload_n 3, 1) := by decide +kernel
theorem dX2_append_40 : decode cX2_append 40 = .ok (.iastore, 1) := by decide +kernel
theorem dX2_append_41 : decode cX2_append 41 = .ok (.aload_n 0, 1) := by decide +kernel
theorem dX2_append_42 : decode cX2_append 42 = .ok (.dup, 1) := by decide +kernel
theorem dX2_append_43 : decode cX2_append 43 = .ok (.getfield 21, 3) := by decide +kernel
theorem dX2_append_46 : decode cX2_append 46 = .ok (.iconst 1, 1) := by decide +kernel
theorem dX2_append_47 : decode cX2_append 47 = .ok (.iadd, 1) := by decide +kernel
theorem dX2_append_48 : decode cX2_append 48 = .ok (.putfield 21, 3) := by decide +kernel
theorem dX2_append_51 : decode cX2_append 51 = .ok (.iconst 1, 1) := by decide +kernel
theorem dX2_append_52 : decode cX2_append 52 = .ok (.ireturn, 1) := by decide +kernel
theorem dX2_forget_0 : decode cX2_forget 0 = .ok (.iload_n 1, 1) := by decide +kernel
theorem dX2_forget_1 : decode cX2_forget 1 = .ok (.iconst (-1), 1) := by decide +kernel
theorem dX2_forget_2 : decode cX2_forget 2 = .ok (.if_icmp .ne 4, 3) := by decide +kernel
theorem dX2_forget_5 : decode cX2_forget 5 = .ok (.return_, 1) := by decide +kernel
theorem dX2_forget_6 : decode cX2_forget 6 = .ok (.aload_n 0, 1) := by decide +kernel
theorem dX2_forget_7 : decode cX2_forget 7 = .ok (.dup, 1) := by decide +kernel
theorem dX2_forget_8 : decode cX2_forget 8 = .ok (.getfield 21, 3) := by decide +kernel
theorem dX2_forget_11 : decode cX2_forget 11 = .ok (.iconst 1, 1) := by decide +kernel
theorem dX2_forget_12 : decode cX2_forget 12 = .ok (.isub, 1) := by decide +kernel
theorem dX2_forget_13 : decode cX2_forget 13 = .ok (.putfield 21, 3) := by decide +kernel
theorem dX2_forget_16 : decode cX2_forget 16 = .ok (.aload_n 0, 1) := by decide +kernel
theorem dX2_forget_17 : decode cX2_forget 17 = .ok (.getfield 11, 3) := by decide +kernel
theorem dX2_forget_20 : decode cX2_forget 20 = .ok (.iload_n 1, 1) := by decide +kernel
theorem dX2_forget_21 : decode cX2_forget 21 = .ok (.aload_n 0, 1) := by decide +kernel
theorem dX2_forget_22 : decode cX2_forget 22 = .ok (.getfield 11, 3) := by decide +kernel
theorem dX2_forget_25 : decode cX2_forget 25 = .ok (.aload_n 0, 1) := by decide +kernel
theorem dX2_forget_26 : decode cX2_forget 26 = .ok (.getfield 21, 3) := by decide +kernel
theorem dX2_forget_29 : decode cX2_forget 29 = .ok (.iaload, 1) := by decide +kernel
theorem dX2_forget_30 : decode cX2_forget 30 = .ok (.iastore, 1) := by decide +kernel
theorem dX2_forget_31 : decode cX2_forget 31 = .ok (.aload_n 0, 1) := by decide +kernel
theorem dX2_forget_32 : decode cX2_forget 32 = .ok (.getfield 15, 3) := by decide +kernel
theorem dX2_forget_35 : decode cX2_forget 35 = .ok (.iload_n 1, 1) := by decide +kernel
theorem dX2_forget_36 : decode cX2_forget 36 = .ok (.aload_n 0, 1) := by decide +kernel
theorem dX2_forget_37 : decode cX2_forget 37 = .ok (.getfield 15, 3) := by decide +kernel
theorem dX2_forget_40 : decode cX2_forget 40 = .ok (.aload_n 0, 1) := by decide +kernel
theorem dX2_forget_41 : decode cX2_forget 41 = .ok (.getfield 21, 3) := by decide +kernel
theorem dX2_forget_44 : decode cX2_forget 44 = .ok (.iaload, 1) := by decide +kernel
theorem dX2_forget_45 : decode cX2_forget 45 = .ok (.iastore, 1) := by decide +kernel
theorem dX2_forget_46 : decode cX2_forget 46 = .ok (.aload_n 0, 1) := by decide +kernel
theorem dX2_forget_47 : decode cX2_forget 47 = .ok (.getfield 18, 3) := by decide +kernel
theorem dX2_forget_50 : decode cX2_forget 50 = .ok (.iload_n 1, 1) := by decide +kernel
theorem dX2_forget_51 : decode cX2_forget 51 = .ok (.aload_n 0, 1) := by decide +kernel
theorem dX2_forget_52 : decode cX2_forget 52 = .ok (.getfield 18, 3) := by decide +kernel
theorem dX2_forget_55 : decode cX2_forget 55 = .ok (.aload_n 0, 1) := by decide +kernel
theorem dX2_forget_56 : decode cX2_forget 56 = .ok (.getfield 21, 3) := by decide +kernel
theorem dX2_forget_59 : decode cX2_forget 59 = .ok (.iaload, 1) := by decide +kernel
theorem dX2_forget_60 : decode cX2_forget 60 = .ok (.iastore, 1) := by decide +kernel
theorem dX2_forget_61 : decode cX2_forget 61 = .ok (.return_, 1) := by decide +kernel
theorem dX3_init_0 : decode cX3_init 0 = .ok (.aload_n 0, 1) := by decide +kernel
theorem dX3_init_1 : decode cX3_init 1 = .ok (.invokespecial 3, 3) := by decide +kernel
theorem dX3_init_4 : decode cX3_init 4 = .ok (.aload_n 0, 1) := by decide +kernel
theorem dX3_init_5 : decode cX3_init 5 = .ok (.sipush 400, 3) := by decide +kernel
theorem dX3_init_8 : decode cX3_init 8 = .ok (.newarray .int, 2) := by decide +kernel
theorem dX3_init_10 : decode cX3_init 10 = .ok (.putfield 11, 3) := by decide +kernel
theorem dX3_init_13 : decode cX3_init 13 = .ok (.aload_n 0, 1) := by decide +kernel
theorem dX3_init_14 : decode cX3_init 14 = .ok (.sipush 400, 3) := by decide +kernel
theorem dX3_init_17 : decode cX3_init 17 = .ok (.newarray .int, 2) := by decide +kernel
theorem dX3_init_19 : decode cX3_init 19 = .ok (.putfield 15, 3) := by decide +kernel
theorem dX3_init_22 : decode cX3_init 22 = .ok (.aload_n 0, 1) := by decide +kernel
theorem dX3_init_23 : decode cX3_init 23 = .ok (.sipush 400, 3) := by decide +kernel
theorem dX3_init_26 : decode cX3_init 26 = .ok (.newarray .int, 2) := by decide +kernel
theorem dX3_init_28 : decode cX3_init 28 = .ok (.putfield 18, 3) := by decide +kernel
theorem dX3_init_31 : decode cX3_init 31 = .ok (.aload_n 0, 1) := by decide +kernel
theorem dX3_init_32 : decode cX3_init 32 = .ok (.sipush 400, 3) := by decide +kernel
theorem dX3_init_35 : decode cX3_init 35 = .ok (.newarray .int, 2) := by decide +kernel
theorem dX3_init_37 : decode cX3_init 37 = .ok (.putfield 21, 3) := by decide +kernel
theorem dX3_init_40 : decode cX3_init 40 = .ok (.aload_n 0, 1) := by decide +kernel
theorem dX3_init_41 : decode cX3_init 41 = .ok (.iconst 0, 1) := by decide +kernel
theorem dX3_init_42 : decode cX3_init 42 = .ok (.putfield 24, 3) := by decide +kernel
theorem dX3_init_45 : decode cX3_init 45 = .ok (.return_, 1) := by decide +kernel
theorem dX3_latestDay_0 : decode cX3_latestDay 0 = .ok (.aload_n 0, 1) := by decide +kernel
theorem dX3_latestDay_1 : decode cX3_latestDay 1 = .ok (.getfield 24, 3) := by decide +kernel
theorem dX3_latestDay_4 : decode cX3_latestDay 4 = .ok (.ifCond .ne 7, 3) := by decide +kernel
theorem dX3_latestDay_7 : decode cX3_latestDay 7 = .ok (.iconst 0, 1) := by decide +kernel
theorem dX3_latestDay_8 : decode cX3_latestDay 8 = .ok (.goto 14, 3) := by decide +kernel
theorem dX3_latestDay_11 : decode cX3_latestDay 11 = .ok (.aload_n 0, 1) := by decide +kernel
theorem dX3_latestDay_12 : decode cX3_latestDay 12 = .ok (.getfield 21, 3) := by decide +kernel
theorem dX3_latestDay_15 : decode cX3_latestDay 15 = .ok (.aload_n 0, 1) := by decide +kernel
theorem dX3_latestDay_16 : decode cX3_latestDay 16 = .ok (.getfield 24, 3) := by decide +kernel
theorem dX3_latestDay_19 : decode cX3_latestDay 19 = .ok (.iconst 1, 1) := by decide +kernel
theorem dX3_latestDay_20 : decode cX3_latestDay 20 = .ok (.isub, 1) := by decide +kernel
theorem dX3_latestDay_21 : decode cX3_latestDay 21 = .ok (.iaload, 1) := by decide +kernel
theorem dX3_latestDay_22 : decode cX3_latestDay 22 = .ok (.ireturn, 1) := by decide +kernel
theorem dX3_take_0 : decode cX3_take 0 = .ok (.aload_n 0, 1) := by decide +kernel
theorem dX3_take_1 : decode cX3_take 1 = .ok (.getfield 24, 3) := by decide +kernel
theorem dX3_take_4 : decode cX3_take 4 = .ok (.sipush 400, 3) := by decide +kernel
theorem dX3_take_7 : decode cX3_take 7 = .ok (.if_icmp .ge 15, 3) := by decide +kernel
theorem dX3_take_10 : decode cX3_take 10 = .ok (.iload_n 1, 1) := by decide +kernel
theorem dX3_take_11 : decode cX3_take 11 = .ok (.aload_n 0, 1) := by decide +kernel
theorem dX3_take_12 : decode cX3_take 12 = .ok (.invokevirtual 28, 3) := by decide +kernel
theorem dX3_take_15 : decode cX3_take 15 = .ok (.if_icmp .lt 7, 3) := by decide +kernel
theorem dX3_take_18 : decode cX3_take 18 = .ok (.iconst 1, 1) := by decide +kernel
theorem dX3_take_19 : decode cX3_take 19 = .ok (.goto 4, 3) := by decide +kernel
theorem dX3_take_22 : decode cX3_take 22 = .ok (.iconst 0, 1) := by decide +kernel
theorem dX3_take_23 : decode cX3_take 23 = .ok (.ireturn, 1) := by decide +kernel
theorem dX3_add_0 : decode cX3_add 0 = .ok (.aload_n 0, 1) := by decide +kernel
theorem dX3_add_1 : decode cX3_add 1 = .ok (.getfield 24, 3) := by decide +kernel
theorem dX3_add_4 : decode cX3_add 4 = .ok (.sipush 400, 3) := by decide +kernel
theorem dX3_add_7 : decode cX3_add 7 = .ok (.if_icmp .lt 5, 3) := by decide +kernel
theorem dX3_add_10 : decode cX3_add 10 = .ok (.iconst (-1), 1) := by decide +kernel
theorem dX3_add_11 : decode cX3_add 11 = .ok (.ireturn, 1) := by decide +kernel
theorem dX3_add_12 : decode cX3_add 12 = .ok (.aload_n 0, 1) := by decide +kernel
theorem dX3_add_13 : decode cX3_add 13 = .ok (.getfield 11, 3) := by decide +kernel
theorem dX3_add_16 : decode cX3_add 16 = .ok (.aload_n 0, 1) := by decide +kernel
theorem dX3_add_17 : decode cX3_add 17 = .ok (.getfield 24, 3) := by decide +kernel
theorem dX3_add_20 : decode cX3_add 20 = .ok (.iload_n 1, 1) := by decide +kernel
theorem dX3_add_21 : decode cX3_add 21 = .ok (.iastore, 1) := by decide +kernel
theorem dX3_add_22 : decode cX3_add 22 = .ok (.aload_n 0, 1) := by decide +kernel
theorem dX3_add_23 : decode cX3_add 23 = .ok (.getfield 15, 3) := by decide +kernel
theorem dX3_add_26 : decode cX3_add 26 = .ok (.aload_n 0, 1) := by decide +kernel
theorem dX3_add_27 : decode cX3_add 27 = .ok (.getfield 24, 3) := by decide +kernel
theorem dX3_add_30 : decode cX3_add 30 = .ok (.iload_n 2, 1) := by decide +kernel
theorem dX3_add_31 : decode cX3_add 31 = .ok (.iastore, 1) := by decide +kernel
theorem dX3_add_32 : decode cX3_add 32 = .ok (.aload_n 0, 1) := by decide +kernel
theorem dX3_add_33 : decode cX3_add 33 = .ok (.getfield 18, 3) := by decide +kernel
theorem dX3_add_36 : decode cX3_add 36 = .ok (.aload_n 0, 1) := by decide +kernel
theorem dX3_add_37 : decode cX3_add 37 = .ok (.getfield 24, 3) := by decide +kernel
theorem dX3_add_40 : decode cX3_add 40 = .ok (.iload_n 3, 1) := by decide +kernel
theorem dX3_add_41 : decode cX3_add 41 = .ok (.iastore, 1) := by decide +kernel
theorem dX3_add_42 : decode cX3_add 42 = .ok (.aload_n 0, 1) := by decide +kernel
theorem dX3_add_43 : decode cX3_add 43 = .ok (.getfield 21, 3) := by decide +kernel
theorem dX3_add_46 : decode cX3_add 46 = .ok (.aload_n 0, 1) := by decide +kernel
theorem dX3_add_47 : decode cX3_add 47 = .ok (.getfield 24, 3) := by decide +kernel
theorem dX3_add_50 : decode cX3_add 50 = .ok (.iload 4, 2) := by decide +kernel
theorem dX3_add_52 : decode cX3_add 52 = .ok (.iastore, 1) := by decide +kernel
theorem dX3_add_53 : decode cX3_add 53 = .ok (.aload_n 0, 1) := by decide +kernel
theorem dX3_add_54 : decode cX3_add 54 = .ok (.dup, 1) := by decide +kernel
theorem dX3_add_55 : decode cX3_add 55 = .ok (.getfield 24, 3) := by decide +kernel
theorem dX3_add_58 : decode cX3_add 58 = .ok (.iconst 1, 1) := by decide +kernel
theorem dX3_add_59 : decode cX3_add 59 = .ok (.iadd, 1) := by decide +kernel
theorem dX3_add_60 : decode cX3_add 60 = .ok (.putfield 24, 3) := by decide +kernel
theorem dX3_add_63 : decode cX3_add 63 = .ok (.aload_n 0, 1) := by decide +kernel
theorem dX3_add_64 : decode cX3_add 64 = .ok (.getfield 24, 3) := by decide +kernel
theorem dX3_add_67 : decode cX3_add 67 = .ok (.iconst 1, 1) := by decide +kernel
theorem dX3_add_68 : decode cX3_add 68 = .ok (.isub, 1) := by decide +kernel
theorem dX3_add_69 : decode cX3_add 69 = .ok (.ireturn, 1) := by decide +kernel
theorem dX3_takeBack_0 : decode cX3_takeBack 0 = .ok (.aload_n 0, 1) := by decide +kernel
theorem dX3_takeBack_1 : decode cX3_takeBack 1 = .ok (.getfield 24, 3) := by decide +kernel
theorem dX3_takeBack_4 : decode cX3_takeBack 4 = .ok (.ifCond .ne 5, 3) := by decide +kernel
theorem dX3_takeBack_7 : decode cX3_takeBack 7 = .ok (.iconst (-1), 1) := by decide +kernel
theorem dX3_takeBack_8 : decode cX3_takeBack 8 = .ok (.ireturn, 1) := by decide +kernel
theorem dX3_takeBack_9 : decode cX3_takeBack 9 = .ok (.aload_n 0, 1) := by decide +kernel
theorem dX3_takeBack_10 : decode cX3_takeBack 10 = .ok (.dup, 1) := by decide +kernel
theorem dX3_takeBack_11 : decode cX3_takeBack 11 = .ok (.getfield 24, 3) := by decide +kernel
theorem dX3_takeBack_14 : decode cX3_takeBack 14 = .ok (.iconst 1, 1) := by decide +kernel
theorem dX3_takeBack_15 : decode cX3_takeBack 15 = .ok (.isub, 1) := by decide +kernel
theorem dX3_takeBack_16 : decode cX3_takeBack 16 = .ok (.putfield 24, 3) := by decide +kernel
theorem dX3_takeBack_19 : decode cX3_takeBack 19 = .ok (.aload_n 0, 1) := by decide +kernel
theorem dX3_takeBack_20 : decode cX3_takeBack 20 = .ok (.getfield 24, 3) := by decide +kernel
theorem dX3_takeBack_23 : decode cX3_takeBack 23 = .ok (.ireturn, 1) := by decide +kernel
theorem dX3_areOf_0 : decode cX3_areOf 0 = .ok (.iconst 0, 1) := by decide +kernel
theorem dX3_areOf_1 : decode cX3_areOf 1 = .ok (.istore_n 2, 1) := by decide +kernel
theorem dX3_areOf_2 : decode cX3_areOf 2 = .ok (.iload_n 2, 1) := by decide +kernel
theorem dX3_areOf_3 : decode cX3_areOf 3 = .ok (.aload_n 0, 1) := by decide +kernel
theorem dX3_areOf_4 : decode cX3_areOf 4 = .ok (.getfield 24, 3) := by decide +kernel
theorem dX3_areOf_7 : decode cX3_areOf 7 = .ok (.if_icmp .ge 21, 3) := by decide +kernel
theorem dX3_areOf_10 : decode cX3_areOf 10 = .ok (.aload_n 0, 1) := by decide +kernel
theorem dX3_areOf_11 : decode cX3_areOf 11 = .ok (.getfield 15, 3) := by decide +kernel
theorem dX3_areOf_14 : decode cX3_areOf 14 = .ok (.iload_n 2, 1) := by decide +kernel
theorem dX3_areOf_15 : decode cX3_areOf 15 = .ok (.iaload, 1) := by decide +kernel
theorem dX3_areOf_16 : decode cX3_areOf 16 = .ok (.iload_n 1, 1) := by decide +kernel
theorem dX3_areOf_17 : decode cX3_areOf 17 = .ok (.if_icmp .ne 5, 3) := by decide +kernel
theorem dX3_areOf_20 : decode cX3_areOf 20 = .ok (.iconst 1, 1) := by decide +kernel
theorem dX3_areOf_21 : decode cX3_areOf 21 = .ok (.ireturn, 1) := by decide +kernel
theorem dX3_areOf_22 : decode cX3_areOf 22 = .ok (.iinc 2 1, 3) := by decide +kernel
theorem dX3_areOf_25 : decode cX3_areOf 25 = .ok (.goto (-23), 3) := by decide +kernel
theorem dX3_areOf_28 : decode cX3_areOf 28 = .ok (.iconst 0, 1) := by decide +kernel
theorem dX3_areOf_29 : decode cX3_areOf 29 = .ok (.ireturn, 1) := by decide +kernel
theorem dX3_tell_0 : decode cX3_tell 0 = .ok (.iconst 0, 1) := by decide +kernel
theorem dX3_tell_1 : decode cX3_tell 1 = .ok (.istore 5, 2) := by decide +kernel
theorem dX3_tell_3 : decode cX3_tell 3 = .ok (.iload 5, 2) := by decide +kernel
theorem dX3_tell_5 : decode cX3_tell 5 = .ok (.aload_n 0, 1) := by decide +kernel
theorem dX3_tell_6 : decode cX3_tell 6 = .ok (.getfield 24, 3) := by decide +kernel
theorem dX3_tell_9 : decode cX3_tell 9 = .ok (.if_icmp .ge 56, 3) := by decide +kernel
theorem dX3_tell_12 : decode cX3_tell 12 = .ok (.aload_n 0, 1) := by decide +kernel
theorem dX3_tell_13 : decode cX3_tell 13 = .ok (.getfield 21, 3) := by decide +kernel
theorem dX3_tell_16 : decode cX3_tell 16 = .ok (.iload 5, 2) := by decide +kernel
theorem dX3_tell_18 : decode cX3_tell 18 = .ok (.iaload, 1) := by decide +kernel
theorem dX3_tell_19 : decode cX3_tell 19 = .ok (.iload 4, 2) := by decide +kernel
theorem dX3_tell_21 : decode cX3_tell 21 = .ok (.if_icmp .gt 44, 3) := by decide +kernel
theorem dX3_tell_24 : decode cX3_tell 24 = .ok (.aload_n 0, 1) := by decide +kernel
theorem dX3_tell_25 : decode cX3_tell 25 = .ok (.getfield 11, 3) := by decide +kernel
theorem dX3_tell_28 : decode cX3_tell 28 = .ok (.iload 5, 2) := by decide +kernel
theorem dX3_tell_30 : decode cX3_tell 30 = .ok (.iaload, 1) := by decide +kernel
theorem dX3_tell_31 : decode cX3_tell 31 = .ok (.iload_n 1, 1) := by decide +kernel
theorem dX3_tell_32 : decode cX3_tell 32 = .ok (.if_icmp .ne 27, 3) := by decide +kernel
theorem dX3_tell_35 : decode cX3_tell 35 = .ok (.aload_n 0, 1) := by decide +kernel
theorem dX3_tell_36 : decode cX3_tell 36 = .ok (.getfield 15, 3) := by decide +kernel
theorem dX3_tell_39 : decode cX3_tell 39 = .ok (.iload 5, 2) := by decide +kernel
theorem dX3_tell_41 : decode cX3_tell 41 = .ok (.iaload, 1) := by decide +kernel
theorem dX3_tell_42 : decode cX3_tell 42 = .ok (.iload_n 2, 1) := by decide +kernel
theorem dX3_tell_43 : decode cX3_tell 43 = .ok (.if_icmp .ne 16, 3) := by decide +kernel
theorem dX3_tell_46 : decode cX3_tell 46 = .ok (.aload_n 0, 1) := by decide +kernel
theorem dX3_tell_47 : decode cX3_tell 47 = .ok (.getfield 18, 3) := by decide +kernel
theorem dX3_tell_50 : decode cX3_tell 50 = .ok (.iload 5, 2) := by decide +kernel
theorem dX3_tell_52 : decode cX3_tell 52 = .ok (.iaload, 1) := by decide +kernel
theorem dX3_tell_53 : decode cX3_tell 53 = .ok (.iload_n 3, 1) := by decide +kernel
theorem dX3_tell_54 : decode cX3_tell 54 = .ok (.if_icmp .ne 5, 3) := by decide +kernel
theorem dX3_tell_57 : decode cX3_tell 57 = .ok (.iconst 1, 1) := by decide +kernel
theorem dX3_tell_58 : decode cX3_tell 58 = .ok (.ireturn, 1) := by decide +kernel
theorem dX3_tell_59 : decode cX3_tell 59 = .ok (.iinc 5 1, 3) := by decide +kernel
theorem dX3_tell_62 : decode cX3_tell 62 = .ok (.goto (-59), 3) := by decide +kernel
theorem dX3_tell_65 : decode cX3_tell 65 = .ok (.iconst 0, 1) := by decide +kernel
theorem dX3_tell_66 : decode cX3_tell 66 = .ok (.ireturn, 1) := by decide +kernel
theorem dX3_latest_0 : decode cX3_latest 0 = .ok (.aload_n 0, 1) := by decide +kernel
theorem dX3_latest_1 : decode cX3_latest 1 = .ok (.getfield 24, 3) := by decide +kernel
theorem dX3_latest_4 : decode cX3_latest 4 = .ok (.iconst 1, 1) := by decide +kernel
theorem dX3_latest_5 : decode cX3_latest 5 = .ok (.isub, 1) := by decide +kernel
theorem dX3_latest_6 : decode cX3_latest 6 = .ok (.istore_n 2, 1) := by decide +kernel
theorem dX3_latest_7 : decode cX3_latest 7 = .ok (.iload_n 2, 1) := by decide +kernel
theorem dX3_latest_8 : decode cX3_latest 8 = .ok (.ifCond .lt 21, 3) := by decide +kernel
theorem dX3_latest_11 : decode cX3_latest 11 = .ok (.aload_n 0, 1) := by decide +kernel
theorem dX3_latest_12 : decode cX3_latest 12 = .ok (.getfield 11, 3) := by decide +kernel
theorem dX3_latest_15 : decode cX3_latest 15 = .ok (.iload_n 2, 1) := by decide +kernel
theorem dX3_latest_16 : decode cX3_latest 16 = .ok (.iaload, 1) := by decide +kernel
theorem dX3_latest_17 : decode cX3_latest 17 = .ok (.iload_n 1, 1) := by decide +kernel
theorem dX3_latest_18 : decode cX3_latest 18 = .ok (.if_icmp .ne 5, 3) := by decide +kernel
theorem dX3_latest_21 : decode cX3_latest 21 = .ok (.iload_n 2, 1) := by decide +kernel
theorem dX3_latest_22 : decode cX3_latest 22 = .ok (.ireturn, 1) := by decide +kernel
theorem dX3_latest_23 : decode cX3_latest 23 = .ok (.iinc 2 (-1), 3) := by decide +kernel
theorem dX3_latest_26 : decode cX3_latest 26 = .ok (.goto (-19), 3) := by decide +kernel
theorem dX3_latest_29 : decode cX3_latest 29 = .ok (.iconst (-1), 1) := by decide +kernel
theorem dX3_latest_30 : decode cX3_latest 30 = .ok (.ireturn, 1) := by decide +kernel
theorem dX4_init_0 : decode cX4_init 0 = .ok (.aload_n 0, 1) := by decide +kernel
theorem dX4_init_1 : decode cX4_init 1 = .ok (.invokespecial 3, 3) := by decide +kernel
theorem dX4_init_4 : decode cX4_init 4 = .ok (.aload_n 0, 1) := by decide +kernel
theorem dX4_init_5 : decode cX4_init 5 = .ok (.bipush 26, 2) := by decide +kernel
theorem dX4_init_7 : decode cX4_init 7 = .ok (.newarray .int, 2) := by decide +kernel
theorem dX4_init_9 : decode cX4_init 9 = .ok (.putfield 9, 3) := by decide +kernel
theorem dX4_init_12 : decode cX4_init 12 = .ok (.aload_n 0, 1) := by decide +kernel
theorem dX4_init_13 : decode cX4_init 13 = .ok (.sipush 702, 3) := by decide +kernel
theorem dX4_init_16 : decode cX4_init 16 = .ok (.newarray .int, 2) := by decide +kernel
theorem dX4_init_18 : decode cX4_init 18 = .ok (.putfield 15, 3) := by decide +kernel
theorem dX4_init_21 : decode cX4_init 21 = .ok (.aload_n 0, 1) := by decide +kernel
theorem dX4_init_22 : decode cX4_init 22 = .ok (.bipush 66, 2) := by decide +kernel
theorem dX4_init_24 : decode cX4_init 24 = .ok (.newarray .int, 2) := by decide +kernel
theorem dX4_init_26 : decode cX4_init 26 = .ok (.putfield 18, 3) := by decide +kernel
theorem dX4_init_29 : decode cX4_init 29 = .ok (.aload_n 0, 1) := by decide +kernel
theorem dX4_init_30 : decode cX4_init 30 = .ok (.sipush 4356, 3) := by decide +kernel
theorem dX4_init_33 : decode cX4_init 33 = .ok (.newarray .int, 2) := by decide +kernel
theorem dX4_init_35 : decode cX4_init 35 = .ok (.putfield 21, 3) := by decide +kernel
theorem dX4_init_38 : decode cX4_init 38 = .ok (.aload_n 0, 1) := by decide +kernel
theorem dX4_init_39 : decode cX4_init 39 = .ok (.bipush 40, 2) := by decide +kernel
theorem dX4_init_41 : decode cX4_init 41 = .ok (.newarray .int, 2) := by decide +kernel
theorem dX4_init_43 : decode cX4_init 43 = .ok (.putfield 24, 3) := by decide +kernel
theorem dX4_init_46 : decode cX4_init 46 = .ok (.aload_n 0, 1) := by decide +kernel
theorem dX4_init_47 : decode cX4_init 47 = .ok (.bipush 40, 2) := by decide +kernel
theorem dX4_init_49 : decode cX4_init 49 = .ok (.newarray .int, 2) := by decide +kernel
theorem dX4_init_51 : decode cX4_init 51 = .ok (.putfield 27, 3) := by decide +kernel
theorem dX4_init_54 : decode cX4_init 54 = .ok (.aload_n 0, 1) := by decide +kernel
theorem dX4_init_55 : decode cX4_init 55 = .ok (.bipush 41, 2) := by decide +kernel
theorem dX4_init_57 : decode cX4_init 57 = .ok (.newarray .int, 2) := by decide +kernel
theorem dX4_init_59 : decode cX4_init 59 = .ok (.putfield 30, 3) := by decide +kernel
theorem dX4_init_62 : decode cX4_init 62 = .ok (.aload_n 0, 1) := by decide +kernel
theorem dX4_init_63 : decode cX4_init 63 = .ok (.getfield 9, 3) := by decide +kernel
theorem dX4_init_66 : decode cX4_init 66 = .ok (.iconst (-1), 1) := by decide +kernel
theorem dX4_init_67 : decode cX4_init 67 = .ok (.invokestatic 33, 3) := by decide +kernel
theorem dX4_init_70 : decode cX4_init 70 = .ok (.aload_n 0, 1) := by decide +kernel
theorem dX4_init_71 : decode cX4_init 71 = .ok (.getfield 18, 3) := by decide +kernel
theorem dX4_init_74 : decode cX4_init 74 = .ok (.bipush 10, 2) := by decide +kernel
theorem dX4_init_76 : decode cX4_init 76 = .ok (.invokestatic 33, 3) := by decide +kernel
theorem dX4_init_79 : decode cX4_init 79 = .ok (.aload_n 0, 1) := by decide +kernel
theorem dX4_init_80 : decode cX4_init 80 = .ok (.getfield 21, 3) := by decide +kernel
theorem dX4_init_83 : decode cX4_init 83 = .ok (.bipush 10, 2) := by decide +kernel
theorem dX4_init_85 : decode cX4_init 85 = .ok (.invokestatic 33, 3) := by decide +kernel
theorem dX4_init_88 : decode cX4_init 88 = .ok (.iconst 0, 1) := by decide +kernel
theorem dX4_init_89 : decode cX4_init 89 = .ok (.istore_n 1, 1) := by decide +kernel
theorem dX4_init_90 : decode cX4_init 90 = .ok (.iload_n 1, 1) := by decide +kernel
theorem dX4_init_91 : decode cX4_init 91 = .ok (.bipush 66, 2) := by decide +kernel
theorem dX4_init_93 : decode cX4_init 93 = .ok (.if_icmp .ge 21, 3) := by decide +kernel
theorem dX4_init_96 : decode cX4_init 96 = .ok (.aload_n 0, 1) := by decide +kernel
theorem dX4_init_97 : decode cX4_init 97 = .ok (.getfield 21, 3) := by decide +kernel
theorem dX4_init_100 : decode cX4_init 100 = .ok (.iload_n 1, 1) := by decide +kernel
theorem dX4_init_101 : decode cX4_init 101 = .ok (.bipush 66, 2) := by decide +kernel
theorem dX4_init_103 : decode cX4_init 103 = .ok (.imul, 1) := by decide +kernel
theorem dX4_init_104 : decode cX4_init 104 = .ok (.iload_n 1, 1) := by decide +kernel
theorem dX4_init_105 : decode cX4_init 105 = .ok (.iadd, 1) := by decide +kernel
theorem dX4_init_106 : decode cX4_init 106 = .ok (.iconst 0, 1) := by decide +kernel
theorem dX4_init_107 : decode cX4_init 107 = .ok (.iastore, 1) := by decide +kernel
theorem dX4_init_108 : decode cX4_init 108 = .ok (.iinc 1 1, 3) := by decide +kernel
theorem dX4_init_111 : decode cX4_init 111 = .ok (.goto (-21), 3) := by decide +kernel
theorem dX4_init_114 : decode cX4_init 114 = .ok (.return_, 1) := by decide +kernel
theorem dX4_placesOf_0 : decode cX4_placesOf 0 = .ok (.aload_n 0, 1) := by decide +kernel
theorem dX4_placesOf_1 : decode cX4_placesOf 1 = .ok (.getfield 9, 3) := by decide +kernel
theorem dX4_placesOf_4 : decode cX4_placesOf 4 = .ok (.iload_n 1, 1) := by decide +kernel
theorem dX4_placesOf_5 : decode cX4_placesOf 5 = .ok (.iaload, 1) := by decide +kernel
theorem dX4_placesOf_6 : decode cX4_placesOf 6 = .ok (.ireturn, 1) := by decide +kernel
theorem dX4_setPlaces_0 : decode cX4_setPlaces 0 = .ok (.aload_n 0, 1) := by decide +kernel
theorem dX4_setPlaces_1 : decode cX4_setPlaces 1 = .ok (.getfield 9, 3) := by decide +kernel
theorem dX4_setPlaces_4 : decode cX4_setPlaces 4 = .ok (.iload_n 1, 1) := by decide +kernel
theorem dX4_setPlaces_5 : decode cX4_setPlaces 5 = .ok (.iload_n 2, 1) := by decide +kernel
theorem dX4_setPlaces_6 : decode cX4_setPlaces 6 = .ok (.iastore, 1) := by decide +kernel
theorem dX4_setPlaces_7 : decode cX4_setPlaces 7 = .ok (.iconst 0, 1) := by decide +kernel
theorem dX4_setPlaces_8 : decode cX4_setPlaces 8 = .ok (.istore_n 3, 1) := by decide +kernel
theorem dX4_setPlaces_9 : decode cX4_setPlaces 9 = .ok (.iload_n 3, 1) := by decide +kernel
theorem dX4_setPlaces_10 : decode cX4_setPlaces 10 = .ok (.bipush 27, 2) := by decide +kernel
theorem dX4_setPlaces_12 : decode cX4_setPlaces 12 = .ok (.if_icmp .ge 21, 3) := by decide +kernel
theorem dX4_setPlaces_15 : decode cX4_setPlaces 15 = .ok (.aload_n 0, 1) := by decide +kernel
theorem dX4_setPlaces_16 : decode cX4_setPlaces 16 = .ok (.getfield 15, 3) := by decide +kernel
theorem dX4_setPlaces_19 : decode cX4_setPlaces 19 = .ok (.iload_n 1, 1) := by decide +kernel
theorem dX4_setPlaces_20 : decode cX4_setPlaces 20 = .ok (.bipush 27, 2) := by decide +kernel
theorem dX4_setPlaces_22 : decode cX4_setPlaces 22 = .ok (.imul, 1) := by decide +kernel
theorem dX4_setPlaces_23 : decode cX4_setPlaces 23 = .ok (.iload_n 3, 1) := by decide +kernel
theorem dX4_setPlaces_24 : decode cX4_setPlaces 24 = .ok (.iadd, 1) := by decide +kernel
theorem dX4_setPlaces_25 : decode cX4_setPlaces 25 = .ok (.iconst 0, 1) := by decide +kernel
theorem dX4_setPlaces_26 : decode cX4_setPlaces 26 = .ok (.iastore, 1) := by decide +kernel
theorem dX4_setPlaces_27 : decode cX4_setPlaces 27 = .ok (.iinc 3 1, 3) := by decide +kernel
theorem dX4_setPlaces_30 : decode cX4_setPlaces 30 = .ok (.goto (-21), 3) := by decide +kernel
theorem dX4_setPlaces_33 : decode cX4_setPlaces 33 = .ok (.return_, 1) := by decide +kernel
theorem dX4_setPlace_0 : decode cX4_setPlace 0 = .ok (.aload_n 0, 1) := by decide +kernel
theorem dX4_setPlace_1 : decode cX4_setPlace 1 = .ok (.getfield 15, 3) := by decide +kernel
theorem dX4_setPlace_4 : decode cX4_setPlace 4 = .ok (.iload_n 1, 1) := by decide +kernel
theorem dX4_setPlace_5 : decode cX4_setPlace 5 = .ok (.bipush 27, 2) := by decide +kernel
theorem dX4_setPlace_7 : decode cX4_setPlace 7 = .ok (.imul, 1) := by decide +kernel
theorem dX4_setPlace_8 : decode cX4_setPlace 8 = .ok (.iload_n 2, 1) := by decide +kernel
theorem dX4_setPlace_9 : decode cX4_setPlace 9 = .ok (.iadd, 1) := by decide +kernel
theorem dX4_setPlace_10 : decode cX4_setPlace 10 = .ok (.iload_n 3, 1) := by decide +kernel
theorem dX4_setPlace_11 : decode cX4_setPlace 11 = .ok (.iastore, 1) := by decide +kernel
theorem dX4_setPlace_12 : decode cX4_setPlace 12 = .ok (.return_, 1) := by decide +kernel
theorem dX4_setPutCost_0 : decode cX4_setPutCost 0 = .ok (.aload_n 0, 1) := by decide +kernel
theorem dX4_setPutCost_1 : decode cX4_setPutCost 1 = .ok (.getfield 18, 3) := by decide +kernel
theorem dX4_setPutCost_4 : decode cX4_setPutCost 4 = .ok (.iload_n 1, 1) := by decide +kernel
theorem dX4_setPutCost_5 : decode cX4_setPutCost 5 = .ok (.iload_n 2, 1) := by decide +kernel
theorem dX4_setPutCost_6 : decode cX4_setPutCost 6 = .ok (.iastore, 1) := by decide +kernel
theorem dX4_setPutCost_7 : decode cX4_setPutCost 7 = .ok (.return_, 1) := by decide +kernel
theorem dX4_setChangeCost_0 : decode cX4_setChangeCost 0 = .ok (.aload_n 0, 1) := by decide +kernel
theorem dX4_setChangeCost_1 : decode cX4_setChangeCost 1 = .ok (.getfield 21, 3) := by decide +kernel
theorem dX4_setChangeCost_4 : decode cX4_setChangeCost 4 = .ok (.iload_n 1, 1) := by decide +kernel
theorem dX4_setChangeCost_5 : decode cX4_setChangeCost 5 = .ok (.bipush 66, 2) := by decide +kernel
theorem dX4_setChangeCost_7 : decode cX4_setChangeCost 7 = .ok (.imul, 1) := by decide +kernel
theorem dX4_setChangeCost_8 : decode cX4_setChangeCost 8 = .ok (.iload_n 2, 1) := by decide +kernel
theorem dX4_setChangeCost_9 : decode cX4_setChangeCost 9 = .ok (.iadd, 1) := by decide +kernel
theorem dX4_setChangeCost_10 : decode cX4_setChangeCost 10 = .ok (.iload_n 3, 1) := by decide +kernel
theorem dX4_setChangeCost_11 : decode cX4_setChangeCost 11 = .ok (.iastore, 1) := by decide +kernel
theorem dX4_setChangeCost_12 : decode cX4_setChangeCost 12 = .ok (.aload_n 0, 1) := by decide +kernel
theorem dX4_setChangeCost_13 : decode cX4_setChangeCost 13 = .ok (.getfield 21, 3) := by decide +kernel
theorem dX4_setChangeCost_16 : decode cX4_setChangeCost 16 = .ok (.iload_n 2, 1) := by decide +kernel
theorem dX4_setChangeCost_17 : decode cX4_setChangeCost 17 = .ok (.bipush 66, 2) := by decide +kernel
theorem dX4_setChangeCost_19 : decode cX4_setChangeCost 19 = .ok (.imul, 1) := by decide +kernel
theorem dX4_setChangeCost_20 : decode cX4_setChangeCost 20 = .ok (.iload_n 1, 1) := by decide +kernel
theorem dX4_setChangeCost_21 : decode cX4_setChangeCost 21 = .ok (.iadd, 1) := by decide +kernel
theorem dX4_setChangeCost_22 : decode cX4_setChangeCost 22 = .ok (.iload_n 3, 1) := by decide +kernel
theorem dX4_setChangeCost_23 : decode cX4_setChangeCost 23 = .ok (.iastore, 1) := by decide +kernel
theorem dX4_setChangeCost_24 : decode cX4_setChangeCost 24 = .ok (.return_, 1) := by decide +kernel
theorem dX4_countOf_0 : decode cX4_countOf 0 = .ok (.aload_n 0, 1) := by decide +kernel
theorem dX4_countOf_1 : decode cX4_countOf 1 = .ok (.aload_n 1, 1) := by decide +kernel
theorem dX4_countOf_2 : decode cX4_countOf 2 = .ok (.aload_n 0, 1) := by decide +kernel
theorem dX4_countOf_3 : decode cX4_countOf 3 = .ok (.getfield 24, 3) := by decide +kernel
theorem dX4_countOf_6 : decode cX4_countOf 6 = .ok (.invokevirtual 39, 3) := by decide +kernel
theorem dX4_countOf_9 : decode cX4_countOf 9 = .ok (.ireturn, 1) := by decide +kernel
theorem dX4_at_0 : decode cX4_at 0 = .ok (.iload_n 2, 1) := by decide +kernel
theorem dX4_at_1 : decode cX4_at 1 = .ok (.aload_n 0, 1) := by decide +kernel
theorem dX4_at_2 : decode cX4_at 2 = .ok (.aload_n 1, 1) := by decide +kernel
theorem dX4_at_3 : decode cX4_at 3 = .ok (.aload_n 0, 1) := by decide +kernel
theorem dX4_at_4 : decode cX4_at 4 = .ok (.getfield 24, 3) := by decide +kernel
theorem dX4_at_7 : decode cX4_at 7 = .ok (.invokevirtual 39, 3) := by decide +kernel
theorem dX4_at_10 : decode cX4_at 10 = .ok (.invokestatic 43, 3) := by decide +kernel
theorem dX4_at_13 : decode cX4_at 13 = .ok (.ifCond .eq 12, 3) := by decide +kernel
theorem dX4_at_16 : decode cX4_at 16 = .ok (.aload_n 0, 1) := by decide +kernel
theorem dX4_at_17 : decode cX4_at 17 = .ok (.getfield 24, 3) := by decide +kernel
theorem dX4_at_20 : decode cX4_at 20 = .ok (.iload_n 2, 1) := by decide +kernel
theorem dX4_at_21 : decode cX4_at 21 = .ok (.iaload, 1) := by decide +kernel
theorem dX4_at_22 : decode cX4_at 22 = .ok (.goto 4, 3) := by decide +kernel
theorem dX4_at_25 : decode cX4_at 25 = .ok (.iconst (-1), 1) := by decide +kernel
theorem dX4_at_26 : decode cX4_at 26 = .ok (.ireturn, 1) := by decide +kernel
theorem dX4_costOf_0 : decode cX4_costOf 0 = .ok (.aload_n 0, 1) := by decide +kernel
theorem dX4_costOf_1 : decode cX4_costOf 1 = .ok (.aload_n 0, 1) := by decide +kernel
theorem dX4_costOf_2 : decode cX4_costOf 2 = .ok (.aload_n 1, 1) := by decide +kernel
theorem dX4_costOf_3 : decode cX4_costOf 3 = .ok (.aload_n 0, 1) := by decide +kernel
theorem dX4_costOf_4 : decode cX4_costOf 4 = .ok (.getfield 24, 3) := by decide +kernel
theorem dX4_costOf_7 : decode cX4_costOf 7 = .ok (.invokevirtual 39, 3) := by decide +kernel
theorem dX4_costOf_10 : decode cX4_costOf 10 = .ok (.aload_n 0, 1) := by decide +kernel
theorem dX4_costOf_11 : decode cX4_costOf 11 = .ok (.aload_n 2, 1) := by decide +kernel
theorem dX4_costOf_12 : decode cX4_costOf 12 = .ok (.aload_n 0, 1) := by decide +kernel
theorem dX4_costOf_13 : decode cX4_costOf 13 = .ok (.getfield 27, 3) := by decide +kernel
theorem dX4_costOf_16 : decode cX4_costOf 16 = .ok (.invokevirtual 39, 3) := by decide +kernel
theorem dX4_costOf_19 : decode cX4_costOf 19 = .ok (.invokevirtual 47, 3) := by decide +kernel
theorem dX4_costOf_22 : decode cX4_costOf 22 = .ok (.ireturn, 1) := by decide +kernel
theorem dX4_likeOf_0 : decode cX4_likeOf 0 = .ok (.aload_n 0, 1) := by decide +kernel
theorem dX4_likeOf_1 : decode cX4_likeOf 1 = .ok (.aload_n 1, 1) := by decide +kernel
theorem dX4_likeOf_2 : decode cX4_likeOf 2 = .ok (.aload_n 0, 1) := by decide +kernel
theorem dX4_likeOf_3 : decode cX4_likeOf 3 = .ok (.getfield 24, 3) := by decide +kernel
theorem dX4_likeOf_6 : decode cX4_likeOf 6 = .ok (.invokevirtual 39, 3) := by decide +kernel
theorem dX4_likeOf_9 : decode cX4_likeOf 9 = .ok (.istore_n 3, 1) := by decide +kernel
theorem dX4_likeOf_10 : decode cX4_likeOf 10 = .ok (.aload_n 0, 1) := by decide +kernel
theorem dX4_likeOf_11 : decode cX4_likeOf 11 = .ok (.aload_n 2, 1) := by decide +kernel
theorem dX4_likeOf_12 : decode cX4_likeOf 12 = .ok (.aload_n 0, 1) := by decide +kernel
theorem dX4_likeOf_13 : decode cX4_likeOf 13 = .ok (.getfield 27, 3) := by decide +kernel
theorem dX4_likeOf_16 : decode cX4_likeOf 16 = .ok (.invokevirtual 39, 3) := by decide +kernel
theorem dX4_likeOf_19 : decode cX4_likeOf 19 = .ok (.istore 4, 2) := by decide +kernel
theorem dX4_likeOf_21 : decode cX4_likeOf 21 = .ok (.iload_n 3, 1) := by decide +kernel
theorem dX4_likeOf_22 : decode cX4_likeOf 22 = .ok (.iload 4, 2) := by decide +kernel
theorem dX4_likeOf_24 : decode cX4_likeOf 24 = .ok (.invokestatic 51, 3) := by decide +kernel
theorem dX4_likeOf_27 : decode cX4_likeOf 27 = .ok (.istore 5, 2) := by decide +kernel
theorem dX4_likeOf_29 : decode cX4_likeOf 29 = .ok (.iload 5, 2) := by decide +kernel
theorem dX4_likeOf_31 : decode cX4_likeOf 31 = .ok (.ifCond .ne 7, 3) := by decide +kernel
theorem dX4_likeOf_34 : decode cX4_likeOf 34 = .ok (.sipush 1000, 3) := by decide +kernel
theorem dX4_likeOf_37 : decode cX4_likeOf 37 = .ok (.ireturn, 1) := by decide +kernel
theorem dX4_likeOf_38 : decode cX4_likeOf 38 = .ok (.iconst 0, 1) := by decide +kernel
theorem dX4_likeOf_39 : decode cX4_likeOf 39 = .ok (.sipush 1000, 3) := by decide +kernel
theorem dX4_likeOf_42 : decode cX4_likeOf 42 = .ok (.bipush 100, 2) := by decide +kernel
theorem dX4_likeOf_44 : decode cX4_likeOf 44 = .ok (.aload_n 0, 1) := by decide +kernel
theorem dX4_likeOf_45 : decode cX4_likeOf 45 = .ok (.iload_n 3, 1) := by decide +kernel
theorem dX4_likeOf_46 : decode cX4_likeOf 46 = .ok (.iload 4, 2) := by decide +kernel
theorem dX4_likeOf_48 : decode cX4_likeOf 48 = .ok (.invokevirtual 47, 3) := by decide +kernel
theorem dX4_likeOf_51 : decode cX4_likeOf 51 = .ok (.imul, 1) := by decide +kernel
theorem dX4_likeOf_52 : decode cX4_likeOf 52 = .ok (.iload 5, 2) := by decide +kernel
theorem dX4_likeOf_54 : decode cX4_likeOf 54 = .ok (.idiv, 1) := by decide +kernel
theorem dX4_likeOf_55 : decode cX4_likeOf 55 = .ok (.isub, 1) := by decide +kernel
theorem dX4_likeOf_56 : decode cX4_likeOf 56 = .ok (.invokestatic 51, 3) := by decide +kernel
theorem dX4_likeOf_59 : decode cX4_likeOf 59 = .ok (.ireturn, 1) := by decide +kernel
theorem dX4_spell_0 : decode cX4_spell 0 = .ok (.iconst 0, 1) := by decide +kernel
theorem dX4_spell_1 : decode cX4_spell 1 = .ok (.istore_n 3, 1) := by decide +kernel
theorem dX4_spell_2 : decode cX4_spell 2 = .ok (.iconst 0, 1) := by decide +kernel
theorem dX4_spell_3 : decode cX4_spell 3 = .ok (.istore 4, 2) := by decide +kernel
theorem dX4_spell_5 : decode cX4_spell 5 = .ok (.iload 4, 2) := by decide +kernel
theorem dX4_spell_7 : decode cX4_spell 7 = .ok (.aload_n 1, 1) := by decide +kernel
theorem dX4_spell_8 : decode cX4_spell 8 = .ok (.getfield 56, 3) := by decide +kernel
theorem dX4_spell_11 : decode cX4_spell 11 = .ok (.if_icmp .ge 65, 3) := by decide +kernel
theorem dX4_spell_14 : decode cX4_spell 14 = .ok (.iload 4, 2) := by decide +kernel
theorem dX4_spell_16 : decode cX4_spell 16 = .ok (.iconst 1, 1) := by decide +kernel
theorem dX4_spell_17 : decode cX4_spell 17 = .ok (.iadd, 1) := by decide +kernel
theorem dX4_spell_18 : decode cX4_spell 18 = .ok (.aload_n 1, 1) := by decide +kernel
theorem dX4_spell_19 : decode cX4_spell 19 = .ok (.getfield 56, 3) := by decide +kernel
theorem dX4_spell_22 : decode cX4_spell 22 = .ok (.if_icmp .ge 15, 3) := by decide +kernel
theorem dX4_spell_25 : decode cX4_spell 25 = .ok (.aload_n 1, 1) := by decide +kernel
theorem dX4_spell_26 : decode cX4_spell 26 = .ok (.getfield 62, 3) := by decide +kernel
theorem dX4_spell_29 : decode cX4_spell 29 = .ok (.iload 4, 2) := by decide +kernel
theorem dX4_spell_31 : decode cX4_spell 31 = .ok (.iconst 1, 1) := by decide +kernel
theorem dX4_spell_32 : decode cX4_spell 32 = .ok (.iadd, 1) := by decide +kernel
theorem dX4_spell_33 : decode cX4_spell 33 = .ok (.iaload, 1) := by decide +kernel
theorem dX4_spell_34 : decode cX4_spell 34 = .ok (.goto 5, 3) := by decide +kernel
theorem dX4_spell_37 : decode cX4_spell 37 = .ok (.bipush 26, 2) := by decide +kernel
theorem dX4_spell_39 : decode cX4_spell 39 = .ok (.istore 5, 2) := by decide +kernel
theorem dX4_spell_41 : decode cX4_spell 41 = .ok (.aload_n 0, 1) := by decide +kernel
theorem dX4_spell_42 : decode cX4_spell 42 = .ok (.aload_n 1, 1) := by decide +kernel
theorem dX4_spell_43 : decode cX4_spell 43 = .ok (.getfield 62, 3) := by decide +kernel
theorem dX4_spell_46 : decode cX4_spell 46 = .ok (.iload 4, 2) := by decide +kernel
theorem dX4_spell_48 : decode cX4_spell 48 = .ok (.iaload, 1) := by decide +kernel
theorem dX4_spell_49 : decode cX4_spell 49 = .ok (.iload 5, 2) := by decide +kernel
theorem dX4_spell_51 : decode cX4_spell 51 = .ok (.invokevirtual 65, 3) := by decide +kernel
theorem dX4_spell_54 : decode cX4_spell 54 = .ok (.istore 6, 2) := by decide +kernel
theorem dX4_spell_56 : decode cX4_spell 56 = .ok (.iload 6, 2) := by decide +kernel
theorem dX4_spell_58 : decode cX4_spell 58 = .ok (.iconst (-1), 1) := by decide +kernel
theorem dX4_spell_59 : decode cX4_spell 59 = .ok (.if_icmp .eq 11, 3) := by decide +kernel
theorem dX4_spell_62 : decode cX4_spell 62 = .ok (.aload_n 2, 1) := by decide +kernel
theorem dX4_spell_63 : decode cX4_spell 63 = .ok (.iload_n 3, 1) := by decide +kernel
theorem dX4_spell_64 : decode cX4_spell 64 = .ok (.iload 6, 2) := by decide +kernel
theorem dX4_spell_66 : decode cX4_spell 66 = .ok (.iastore, 1) := by decide +kernel
theorem dX4_spell_67 : decode cX4_spell 67 = .ok (.iinc 3 1, 3) := by decide +kernel
theorem dX4_spell_70 : decode cX4_spell 70 = .ok (.iinc 4 1, 3) := by decide +kernel
theorem dX4_spell_73 : decode cX4_spell 73 = .ok (.goto (-68), 3) := by decide +kernel
theorem dX4_spell_76 : decode cX4_spell 76 = .ok (.iload_n 3, 1) := by decide +kernel
theorem dX4_spell_77 : decode cX4_spell 77 = .ok (.ireturn, 1) := by decide +kernel
theorem dX4_heard_0 : decode cX4_heard 0 = .ok (.aload_n 0, 1) := by decide +kernel
theorem dX4_heard_1 : decode cX4_heard 1 = .ok (.getfield 9, 3) := by decide +kernel
theorem dX4_heard_4 : decode cX4_heard 4 = .ok (.iload_n 1, 1) := by decide +kernel
theorem dX4_heard_5 : decode cX4_heard 5 = .ok (.iaload, 1) := by decide +kernel
theorem dX4_heard_6 : decode cX4_heard 6 = .ok (.iconst (-1), 1) := by decide +kernel
theorem dX4_heard_7 : decode cX4_heard 7 = .ok (.if_icmp .ne 8, 3) := by decide +kernel
theorem dX4_heard_10 : decode cX4_heard 10 = .ok (.bipush 40, 2) := by decide +kernel
theorem dX4_heard_12 : decode cX4_heard 12 = .ok (.iload_n 1, 1) := by decide +kernel
theorem dX4_heard_13 : decode cX4_heard 13 = .ok (.iadd, 1) := by decide +kernel
theorem dX4_heard_14 : decode cX4_heard 14 = .ok (.ireturn, 1) := by decide +kernel
theorem dX4_heard_15 : decode cX4_heard 15 = .ok (.iload_n 2, 1) := by decide +kernel
theorem dX4_heard_16 : decode cX4_heard 16 = .ok (.aload_n 0, 1) := by decide +kernel
theorem dX4_heard_17 : decode cX4_heard 17 = .ok (.getfield 9, 3) := by decide +kernel
theorem dX4_heard_20 : decode cX4_heard 20 = .ok (.iload_n 1, 1) := by decide +kernel
theorem dX4_heard_21 : decode cX4_heard 21 = .ok (.iaload, 1) := by decide +kernel
theorem dX4_heard_22 : decode cX4_heard 22 = .ok (.if_icmp .ge 17, 3) := by decide +kernel
theorem dX4_heard_25 : decode cX4_heard 25 = .ok (.aload_n 0, 1) := by decide +kernel
theorem dX4_heard_26 : decode cX4_heard 26 = .ok (.getfield 15, 3) := by decide +kernel
theorem dX4_heard_29 : decode cX4_heard 29 = .ok (.iload_n 1, 1) := by decide +kernel
theorem dX4_heard_30 : decode cX4_heard 30 = .ok (.bipush 27, 2) := by decide +kernel
theorem dX4_heard_32 : decode cX4_heard 32 = .ok (.imul, 1) := by decide +kernel
theorem dX4_heard_33 : decode cX4_heard 33 = .ok (.iload_n 2, 1) := by decide +kernel
theorem dX4_heard_34 : decode cX4_heard 34 = .ok (.iadd, 1) := by decide +kernel
theorem dX4_heard_35 : decode cX4_heard 35 = .ok (.iaload, 1) := by decide +kernel
theorem dX4_heard_36 : decode cX4_heard 36 = .ok (.goto 4, 3) := by decide +kernel
theorem dX4_heard_39 : decode cX4_heard 39 = .ok (.iconst (-1), 1) := by decide +kernel
theorem dX4_heard_40 : decode cX4_heard 40 = .ok (.ireturn, 1) := by decide +kernel
theorem dX4_leastSum_0 : decode cX4_leastSum 0 = .ok (.aload_n 0, 1) := by decide +kernel
theorem dX4_leastSum_1 : decode cX4_leastSum 1 = .ok (.getfield 30, 3) := by decide +kernel
theorem dX4_leastSum_4 : decode cX4_leastSum 4 = .ok (.iconst 0, 1) := by decide +kernel
theorem dX4_leastSum_5 : decode cX4_leastSum 5 = .ok (.iconst 0, 1) := by decide +kernel
theorem dX4_leastSum_6 : decode cX4_leastSum 6 = .ok (.iastore, 1) := by decide +kernel
theorem dX4_leastSum_7 : decode cX4_leastSum 7 = .ok (.iconst 0, 1) := by decide +kernel
theorem dX4_leastSum_8 : decode cX4_leastSum 8 = .ok (.istore_n 3, 1) := by decide +kernel
theorem dX4_leastSum_9 : decode cX4_leastSum 9 = .ok (.iload_n 3, 1) := by decide +kernel
theorem dX4_leastSum_10 : decode cX4_leastSum 10 = .ok (.iload_n 2, 1) := by decide +kernel
theorem dX4_leastSum_11 : decode cX4_leastSum 11 = .ok (.if_icmp .ge 35, 3) := by decide +kernel
theorem dX4_leastSum_14 : decode cX4_leastSum 14 = .ok (.aload_n 0, 1) := by decide +kernel
theorem dX4_leastSum_15 : decode cX4_leastSum 15 = .ok (.getfield 30, 3) := by decide +kernel
theorem dX4_leastSum_18 : decode cX4_leastSum 18 = .ok (.iload_n 3, 1) := by decide +kernel
theorem dX4_leastSum_19 : decode cX4_leastSum 19 = .ok (.iconst 1, 1) := by decide +kernel
theorem dX4_leastSum_20 : decode cX4_leastSum 20 = .ok (.iadd, 1) := by decide +kernel
theorem dX4_leastSum_21 : decode cX4_leastSum 21 = .ok (.aload_n 0, 1) := by decide +kernel
theorem dX4_leastSum_22 : decode cX4_leastSum 22 = .ok (.getfield 30, 3) := by decide +kernel
theorem dX4_leastSum_25 : decode cX4_leastSum 25 = .ok (.iload_n 3, 1) := by decide +kernel
theorem dX4_leastSum_26 : decode cX4_leastSum 26 = .ok (.iaload, 1) := by decide +kernel
theorem dX4_leastSum_27 : decode cX4_leastSum 27 = .ok (.aload_n 0, 1) := by decide +kernel
theorem dX4_leastSum_28 : decode cX4_leastSum 28 = .ok (.getfield 18, 3) := by decide +kernel
theorem dX4_leastSum_31 : decode cX4_leastSum 31 = .ok (.aload_n 0, 1) := by decide +kernel
theorem dX4_leastSum_32 : decode cX4_leastSum 32 = .ok (.getfield 27, 3) := by decide +kernel
theorem dX4_leastSum_35 : decode cX4_leastSum 35 = .ok (.iload_n 3, 1) := by decide +kernel
theorem dX4_leastSum_36 : decode cX4_leastSum 36 = .ok (.iaload, 1) := by decide +kernel
theorem dX4_leastSum_37 : decode cX4_leastSum 37 = .ok (.iaload, 1) := by decide +kernel
theorem dX4_leastSum_38 : decode cX4_leastSum 38 = .ok (.iadd, 1) := by decide +kernel
theorem dX4_leastSum_39 : decode cX4_leastSum 39 = .ok (.iastore, 1) := by decide +kernel
theorem dX4_leastSum_40 : decode cX4_leastSum 40 = .ok (.iinc 3 1, 3) := by decide +kernel
theorem dX4_leastSum_43 : decode cX4_leastSum 43 = .ok (.goto (-34), 3) := by decide +kernel
theorem dX4_leastSum_46 : decode cX4_leastSum 46 = .ok (.iconst 0, 1) := by decide +kernel
theorem dX4_leastSum_47 : decode cX4_leastSum 47 = .ok (.istore_n 3, 1) := by decide +kernel
theorem dX4_leastSum_48 : decode cX4_leastSum 48 = .ok (.iload_n 3, 1) := by decide +kernel
theorem dX4_leastSum_49 : decode cX4_leastSum 49 = .ok (.iload_n 1, 1) := by decide +kernel
theorem dX4_leastSum_50 : decode cX4_leastSum 50 = .ok (.if_icmp .ge 152, 3) := by decide +kernel
theorem dX4_leastSum_53 : decode cX4_leastSum 53 = .ok (.aload_n 0, 1) := by decide +kernel
theorem dX4_leastSum_54 : decode cX4_leastSum 54 = .ok (.getfield 24, 3) := by decide +kernel
theorem dX4_leastSum_57 : decode cX4_leastSum 57 = .ok (.iload_n 3, 1) := by decide +kernel
theorem dX4_leastSum_58 : decode cX4_leastSum 58 = .ok (.iaload, 1) := by decide +kernel
theorem dX4_leastSum_59 : decode cX4_leastSum 59 = .ok (.istore 4, 2) := by decide +kernel
theorem dX4_leastSum_61 : decode cX4_leastSum 61 = .ok (.aload_n 0, 1) := by decide +kernel
theorem dX4_leastSum_62 : decode cX4_leastSum 62 = .ok (.getfield 30, 3) := by decide +kernel
theorem dX4_leastSum_65 : decode cX4_leastSum 65 = .ok (.iconst 0, 1) := by decide +kernel
theorem dX4_leastSum_66 : decode cX4_leastSum 66 = .ok (.iaload, 1) := by decide +kernel
theorem dX4_leastSum_67 : decode cX4_leastSum 67 = .ok (.istore 5, 2) := by decide +kernel
theorem dX4_leastSum_69 : decode cX4_leastSum 69 = .ok (.aload_n 0, 1) := by decide +kernel
theorem dX4_leastSum_70 : decode cX4_leastSum 70 = .ok (.getfield 30, 3) := by decide +kernel
theorem dX4_leastSum_73 : decode cX4_leastSum 73 = .ok (.iconst 0, 1) := by decide +kernel
theorem dX4_leastSum_74 : decode cX4_leastSum 74 = .ok (.dup2, 1) := by decide +kernel
theorem dX4_leastSum_75 : decode cX4_leastSum 75 = .ok (.iaload, 1) := by decide +kernel
theorem dX4_leastSum_76 : decode cX4_leastSum 76 = .ok (.aload_n 0, 1) := by decide +kernel
theorem dX4_leastSum_77 : decode cX4_leastSum 77 = .ok (.getfield 18, 3) := by decide +kernel
theorem dX4_leastSum_80 : decode cX4_leastSum 80 = .ok (.iload 4, 2) := by decide +kernel
theorem dX4_leastSum_82 : decode cX4_leastSum 82 = .ok (.iaload, 1) := by decide +kernel
theorem dX4_leastSum_83 : decode cX4_leastSum 83 = .ok (.iadd, 1) := by decide +kernel
theorem dX4_leastSum_84 : decode cX4_leastSum 84 = .ok (.iastore, 1) := by decide +kernel
theorem dX4_leastSum_85 : decode cX4_leastSum 85 = .ok (.iconst 0, 1) := by decide +kernel
theorem dX4_leastSum_86 : decode cX4_leastSum 86 = .ok (.istore 6, 2) := by decide +kernel
theorem dX4_leastSum_88 : decode cX4_leastSum 88 = .ok (.iload 6, 2) := by decide +kernel
theorem dX4_leastSum_90 : decode cX4_leastSum 90 = .ok (.iload_n 2, 1) := by decide +kernel
theorem dX4_leastSum_91 : decode cX4_leastSum 91 = .ok (.if_icmp .ge 105, 3) := by decide +kernel
theorem dX4_leastSum_94 : decode cX4_leastSum 94 = .ok (.iload 5, 2) := by decide +kernel
theorem dX4_leastSum_96 : decode cX4_leastSum 96 = .ok (.aload_n 0, 1) := by decide +kernel
theorem dX4_leastSum_97 : decode cX4_leastSum 97 = .ok (.getfield 21, 3) := by decide +kernel
theorem dX4_leastSum_100 : decode cX4_leastSum 100 = .ok (.iload 4, 2) := by decide +kernel
theorem dX4_leastSum_102 : decode cX4_leastSum 102 = .ok (.bipush 66, 2) := by decide +kernel
theorem dX4_leastSum_104 : decode cX4_leastSum 104 = .ok (.imul, 1) := by decide +kernel
theorem dX4_leastSum_105 : decode cX4_leastSum 105 = .ok (.aload_n 0, 1) := by decide +kernel
theorem dX4_leastSum_106 : decode cX4_leastSum 106 = .ok (.getfield 27, 3) := by decide +kernel
theorem dX4_leastSum_109 : decode cX4_leastSum 109 = .ok (.iload 6, 2) := by decide +kernel
theorem dX4_leastSum_111 : decode cX4_leastSum 111 = .ok (.iaload, 1) := by decide +kernel
theorem dX4_leastSum_112 : decode cX4_leastSum 112 = .ok (.iadd, 1) := by decide +kernel
theorem dX4_leastSum_113 : decode cX4_leastSum 113 = .ok (.iaload, 1) := by decide +kernel
theorem dX4_leastSum_114 : decode cX4_leastSum 114 = .ok (.iadd, 1) := by decide +kernel
theorem dX4_leastSum_115 : decode cX4_leastSum 115 = .ok (.istore 7, 2) := by decide +kernel
theorem dX4_leastSum_117 : decode cX4_leastSum 117 = .ok (.aload_n 0, 1) := by decide +kernel
theorem dX4_leastSum_118 : decode cX4_leastSum 118 = .ok (.getfield 30, 3) := by decide +kernel
theorem dX4_leastSum_121 : decode cX4_leastSum 121 = .ok (.iload 6, 2) := by decide +kernel
theorem dX4_leastSum_123 : decode cX4_leastSum 123 = .ok (.iconst 1, 1) := by decide +kernel
theorem dX4_leastSum_124 : decode cX4_leastSum 124 = .ok (.iadd, 1) := by decide +kernel
theorem dX4_leastSum_125 : decode cX4_leastSum 125 = .ok (.iaload, 1) := by decide +kernel
theorem dX4_leastSum_126 : decode cX4_leastSum 126 = .ok (.aload_n 0, 1) := by decide +kernel
theorem dX4_leastSum_127 : decode cX4_leastSum 127 = .ok (.getfield 18, 3) := by decide +kernel
theorem dX4_leastSum_130 : decode cX4_leastSum 130 = .ok (.iload 4, 2) := by decide +kernel
theorem dX4_leastSum_132 : decode cX4_leastSum 132 = .ok (.iaload, 1) := by decide +kernel
theorem dX4_leastSum_133 : decode cX4_leastSum 133 = .ok (.iadd, 1) := by decide +kernel
theorem dX4_leastSum_134 : decode cX4_leastSum 134 = .ok (.istore 8, 2) := by decide +kernel
theorem dX4_leastSum_136 : decode cX4_leastSum 136 = .ok (.aload_n 0, 1) := by decide +kernel
theorem dX4_leastSum_137 : decode cX4_leastSum 137 = .ok (.getfield 30, 3) := by decide +kernel
theorem dX4_leastSum_140 : decode cX4_leastSum 140 = .ok (.iload 6, 2) := by decide +kernel
theorem dX4_leastSum_142 : decode cX4_leastSum 142 = .ok (.iaload, 1) := by decide +kernel
theorem dX4_leastSum_143 : decode cX4_leastSum 143 = .ok (.aload_n 0, 1) := by decide +kernel
theorem dX4_leastSum_144 : decode cX4_leastSum 144 = .ok (.getfield 18, 3) := by decide +kernel
theorem dX4_leastSum_147 : decode cX4_leastSum 147 = .ok (.aload_n 0, 1) := by decide +kernel
theorem dX4_leastSum_148 : decode cX4_leastSum 148 = .ok (.getfield 27, 3) := by decide +kernel
theorem dX4_leastSum_151 : decode cX4_leastSum 151 = .ok (.iload 6, 2) := by decide +kernel
theorem dX4_leastSum_153 : decode cX4_leastSum 153 = .ok (.iaload, 1) := by decide +kernel
theorem dX4_leastSum_154 : decode cX4_leastSum 154 = .ok (.iaload, 1) := by decide +kernel
theorem dX4_leastSum_155 : decode cX4_leastSum 155 = .ok (.iadd, 1) := by decide +kernel
theorem dX4_leastSum_156 : decode cX4_leastSum 156 = .ok (.istore 9, 2) := by decide +kernel
theorem dX4_leastSum_158 : decode cX4_leastSum 158 = .ok (.aload_n 0, 1) := by decide +kernel
theorem dX4_leastSum_159 : decode cX4_leastSum 159 = .ok (.getfield 30, 3) := by decide +kernel
theorem dX4_leastSum_162 : decode cX4_leastSum 162 = .ok (.iload 6, 2) := by decide +kernel
theorem dX4_leastSum_164 : decode cX4_leastSum 164 = .ok (.iconst 1, 1) := by decide +kernel
theorem dX4_leastSum_165 : decode cX4_leastSum 165 = .ok (.iadd, 1) := by decide +kernel
theorem dX4_leastSum_166 : decode cX4_leastSum 166 = .ok (.iaload, 1) := by decide +kernel
theorem dX4_leastSum_167 : decode cX4_leastSum 167 = .ok (.istore 5, 2) := by decide +kernel
theorem dX4_leastSum_169 : decode cX4_leastSum 169 = .ok (.aload_n 0, 1) := by decide +kernel
theorem dX4_leastSum_170 : decode cX4_leastSum 170 = .ok (.getfield 30, 3) := by decide +kernel
theorem dX4_leastSum_173 : decode cX4_leastSum 173 = .ok (.iload 6, 2) := by decide +kernel
theorem dX4_leastSum_175 : decode cX4_leastSum 175 = .ok (.iconst 1, 1) := by decide +kernel
theorem dX4_leastSum_176 : decode cX4_leastSum 176 = .ok (.iadd, 1) := by decide +kernel
theorem dX4_leastSum_177 : decode cX4_leastSum 177 = .ok (.iload 7, 2) := by decide +kernel
theorem dX4_leastSum_179 : decode cX4_leastSum 179 = .ok (.iload 8, 2) := by decide +kernel
theorem dX4_leastSum_181 : decode cX4_leastSum 181 = .ok (.iload 9, 2) := by decide +kernel
theorem dX4_leastSum_183 : decode cX4_leastSum 183 = .ok (.invokestatic 68, 3) := by decide +kernel
theorem dX4_leastSum_186 : decode cX4_leastSum 186 = .ok (.invokestatic 68, 3) := by decide +kernel
theorem dX4_leastSum_189 : decode cX4_leastSum 189 = .ok (.iastore, 1) := by decide +kernel
theorem dX4_leastSum_190 : decode cX4_leastSum 190 = .ok (.iinc 6 1, 3) := by decide +kernel
theorem dX4_leastSum_193 : decode cX4_leastSum 193 = .ok (.goto (-105), 3) := by decide +kernel
theorem dX4_leastSum_196 : decode cX4_leastSum 196 = .ok (.iinc 3 1, 3) := by decide +kernel
theorem dX4_leastSum_199 : decode cX4_leastSum 199 = .ok (.goto (-151), 3) := by decide +kernel
theorem dX4_leastSum_202 : decode cX4_leastSum 202 = .ok (.aload_n 0, 1) := by decide +kernel
theorem dX4_leastSum_203 : decode cX4_leastSum 203 = .ok (.getfield 30, 3) := by decide +kernel
theorem dX4_leastSum_206 : decode cX4_leastSum 206 = .ok (.iload_n 2, 1) := by decide +kernel
theorem dX4_leastSum_207 : decode cX4_leastSum 207 = .ok (.iaload, 1) := by decide +kernel
theorem dX4_leastSum_208 : decode cX4_leastSum 208 = .ok (.ireturn, 1) := by decide +kernel
theorem dX5_init_0 : decode cX5_init 0 = .ok (.aload_n 0, 1) := by decide +kernel
theorem dX5_init_1 : decode cX5_init 1 = .ok (.invokespecial 3, 3) := by decide +kernel
theorem dX5_init_4 : decode cX5_init 4 = .ok (.aload_n 0, 1) := by decide +kernel
theorem dX5_init_5 : decode cX5_init 5 = .ok (.bipush 20, 2) := by decide +kernel
theorem dX5_init_7 : decode cX5_init 7 = .ok (.newarray .int, 2) := by decide +kernel
theorem dX5_init_9 : decode cX5_init 9 = .ok (.putfield 11, 3) := by decide +kernel
theorem dX5_init_12 : decode cX5_init 12 = .ok (.aload_n 0, 1) := by decide +kernel
theorem dX5_init_13 : decode cX5_init 13 = .ok (.bipush 20, 2) := by decide +kernel
theorem dX5_init_15 : decode cX5_init 15 = .ok (.newarray .int, 2) := by decide +kernel
theorem dX5_init_17 : decode cX5_init 17 = .ok (.putfield 15, 3) := by decide +kernel
theorem dX5_init_20 : decode cX5_init 20 = .ok (.aload_n 0, 1) := by decide +kernel
theorem dX5_init_21 : decode cX5_init 21 = .ok (.bipush 20, 2) := by decide +kernel
theorem dX5_init_23 : decode cX5_init 23 = .ok (.newarray .int, 2) := by decide +kernel
theorem dX5_init_25 : decode cX5_init 25 = .ok (.putfield 18, 3) := by decide +kernel
theorem dX5_init_28 : decode cX5_init 28 = .ok (.aload_n 0, 1) := by decide +kernel
theorem dX5_init_29 : decode cX5_init 29 = .ok (.bipush 20, 2) := by decide +kernel
theorem dX5_init_31 : decode cX5_init 31 = .ok (.newarray .boolean, 2) := by decide +kernel
theorem dX5_init_33 : decode cX5_init 33 = .ok (.putfield 21, 3) := by decide +kernel
theorem dX5_init_36 : decode cX5_init 36 = .ok (.return_, 1) := by decide +kernel
theorem dX5_read_0 : decode cX5_read 0 = .ok (.aload_n 0, 1) := by decide +kernel
theorem dX5_read_1 : decode cX5_read 1 = .ok (.iload 4, 2) := by decide +kernel
theorem dX5_read_3 : decode cX5_read 3 = .ok (.invokevirtual 25, 3) := by decide +kernel
theorem dX5_read_6 : decode cX5_read 6 = .ok (.iconst 0, 1) := by decide +kernel
theorem dX5_read_7 : decode cX5_read 7 = .ok (.istore 5, 2) := by decide +kernel
theorem dX5_read_9 : decode cX5_read 9 = .ok (.iload 5, 2) := by decide +kernel
theorem dX5_read_11 : decode cX5_read 11 = .ok (.aload_n 1, 1) := by decide +kernel
theorem dX5_read_12 : decode cX5_read 12 = .ok (.getfield 29, 3) := by decide +kernel
theorem dX5_read_15 : decode cX5_read 15 = .ok (.if_icmp .ge 58, 3) := by decide +kernel
theorem dX5_read_18 : decode cX5_read 18 = .ok (.aload_n 1, 1) := by decide +kernel
theorem dX5_read_19 : decode cX5_read 19 = .ok (.getfield 35, 3) := by decide +kernel
theorem dX5_read_22 : decode cX5_read 22 = .ok (.iload 5, 2) := by decide +kernel
theorem dX5_read_24 : decode cX5_read 24 = .ok (.iaload, 1) := by decide +kernel
theorem dX5_read_25 : decode cX5_read 25 = .ok (.iload 4, 2) := by decide +kernel
theorem dX5_read_27 : decode cX5_read 27 = .ok (.if_icmp .gt 46, 3) := by decide +kernel
theorem dX5_read_30 : decode cX5_read 30 = .ok (.aload_n 1, 1) := by decide +kernel
theorem dX5_read_31 : decode cX5_read 31 = .ok (.getfield 38, 3) := by decide +kernel
theorem dX5_read_34 : decode cX5_read 34 = .ok (.iload 5, 2) := by decide +kernel
theorem dX5_read_36 : decode cX5_read 36 = .ok (.iaload, 1) := by decide +kernel
theorem dX5_read_37 : decode cX5_read 37 = .ok (.iload_n 2, 1) := by decide +kernel
theorem dX5_read_38 : decode cX5_read 38 = .ok (.if_icmp .ne 29, 3) := by decide +kernel
theorem dX5_read_41 : decode cX5_read 41 = .ok (.aload_n 0, 1) := by decide +kernel
theorem dX5_read_42 : decode cX5_read 42 = .ok (.aload_n 1, 1) := by decide +kernel
theorem dX5_read_43 : decode cX5_read 43 = .ok (.getfield 41, 3) := by decide +kernel
theorem dX5_read_46 : decode cX5_read 46 = .ok (.iload 5, 2) := by decide +kernel
theorem dX5_read_48 : decode cX5_read 48 = .ok (.iaload, 1) := by decide +kernel
theorem dX5_read_49 : decode cX5_read 49 = .ok (.aload_n 1, 1) := by decide +kernel
theorem dX5_read_50 : decode cX5_read 50 = .ok (.getfield 44, 3) := by decide +kernel
theorem dX5_read_53 : decode cX5_read 53 = .ok (.iload 5, 2) := by decide +kernel
theorem dX5_read_55 : decode cX5_read 55 = .ok (.iaload, 1) := by decide +kernel
theorem dX5_read_56 : decode cX5_read 56 = .ok (.aload_n 1, 1) := by decide +kernel
theorem dX5_read_57 : decode cX5_read 57 = .ok (.getfield 35, 3) := by decide +kernel
theorem dX5_read_60 : decode cX5_read 60 = .ok (.iload 5, 2) := by decide +kernel
theorem dX5_read_62 : decode cX5_read 62 = .ok (.iaload, 1) := by decide +kernel
theorem dX5_read_63 : decode cX5_read 63 = .ok (.iload_n 3, 1) := by decide +kernel
theorem dX5_read_64 : decode cX5_read 64 = .ok (.invokevirtual 47, 3) := by decide +kernel
theorem dX5_read_67 : decode cX5_read 67 = .ok (.iinc 5 1, 3) := by decide +kernel
theorem dX5_read_70 : decode cX5_read 70 = .ok (.goto (-61), 3) := by decide +kernel
theorem dX5_read_73 : decode cX5_read 73 = .ok (.return_, 1) := by decide +kernel
theorem dX5_isEntered_0 : decode cX5_isEntered 0 = .ok (.aload_n 0, 1) := by decide +kernel
theorem dX5_isEntered_1 : decode cX5_isEntered 1 = .ok (.getfield 51, 3) := by decide +kernel
theorem dX5_isEntered_4 : decode cX5_isEntered 4 = .ok (.iconst (-1), 1) := by decide +kernel
theorem dX5_isEntered_5 : decode cX5_isEntered 5 = .ok (.if_icmp .eq 7, 3) := by decide +kernel
theorem dX5_isEntered_8 : decode cX5_isEntered 8 = .ok (.iconst 1, 1) := by decide +kernel
theorem dX5_isEntered_9 : decode cX5_isEntered 9 = .ok (.goto 4, 3) := by decide +kernel
theorem dX5_isEntered_12 : decode cX5_isEntered 12 = .ok (.iconst 0, 1) := by decide +kernel
theorem dX5_isEntered_13 : decode cX5_isEntered 13 = .ok (.ireturn, 1) := by decide +kernel
theorem dX5_termEnd_0 : decode cX5_termEnd 0 = .ok (.aload_n 0, 1) := by decide +kernel
theorem dX5_termEnd_1 : decode cX5_termEnd 1 = .ok (.invokevirtual 54, 3) := by decide +kernel
theorem dX5_termEnd_4 : decode cX5_termEnd 4 = .ok (.ifCond .eq 21, 3) := by decide +kernel
theorem dX5_termEnd_7 : decode cX5_termEnd 7 = .ok (.aload_n 0, 1) := by decide +kernel
theorem dX5_termEnd_8 : decode cX5_termEnd 8 = .ok (.getfield 51, 3) := by decide +kernel
theorem dX5_termEnd_11 : decode cX5_termEnd 11 = .ok (.sipush 3650, 3) := by decide +kernel
theorem dX5_termEnd_14 : decode cX5_termEnd 14 = .ok (.iconst 1, 1) := by decide +kernel
theorem dX5_termEnd_15 : decode cX5_termEnd 15 = .ok (.aload_n 0, 1) := by decide +kernel
theorem dX5_termEnd_16 : decode cX5_termEnd 16 = .ok (.getfield 58, 3) := by decide +kernel
theorem dX5_termEnd_19 : decode cX5_termEnd 19 = .ok (.iadd, 1) := by decide +kernel
theorem dX5_termEnd_20 : decode cX5_termEnd 20 = .ok (.imul, 1) := by decide +kernel
theorem dX5_termEnd_21 : decode cX5_termEnd 21 = .ok (.iadd, 1) := by decide +kernel
theorem dX5_termEnd_22 : decode cX5_termEnd 22 = .ok (.goto 4, 3) := by decide +kernel
theorem dX5_termEnd_25 : decode cX5_termEnd 25 = .ok (.iconst (-1), 1) := by decide +kernel
theorem dX5_termEnd_26 : decode cX5_termEnd 26 = .ok (.ireturn, 1) := by decide +kernel
theorem dX5_isLapsed_0 : decode cX5_isLapsed 0 = .ok (.aload_n 0, 1) := by decide +kernel
theorem dX5_isLapsed_1 : decode cX5_isLapsed 1 = .ok (.invokevirtual 54, 3) := by decide +kernel
theorem dX5_isLapsed_4 : decode cX5_isLapsed 4 = .ok (.ifCond .eq 22, 3) := by decide +kernel
theorem dX5_isLapsed_7 : decode cX5_isLapsed 7 = .ok (.aload_n 0, 1) := by decide +kernel
theorem dX5_isLapsed_8 : decode cX5_isLapsed 8 = .ok (.getfield 61, 3) := by decide +kernel
theorem dX5_isLapsed_11 : decode cX5_isLapsed 11 = .ok (.aload_n 0, 1) := by decide +kernel
theorem dX5_isLapsed_12 : decode cX5_isLapsed 12 = .ok (.invokevirtual 64, 3) := by decide +kernel
theorem dX5_isLapsed_15 : decode cX5_isLapsed 15 = .ok (.sipush 180, 3) := by decide +kernel
theorem dX5_isLapsed_18 : decode cX5_isLapsed 18 = .ok (.iadd, 1) := by decide +kernel
theorem dX5_isLapsed_19 : decode cX5_isLapsed 19 = .ok (.if_icmp .le 7, 3) := by decide +kernel
theorem dX5_isLapsed_22 : decode cX5_isLapsed 22 = .ok (.iconst 1, 1) := by decide +kernel
theorem dX5_isLapsed_23 : decode cX5_isLapsed 23 = .ok (.goto 4, 3) := by decide +kernel
theorem dX5_isLapsed_26 : decode cX5_isLapsed 26 = .ok (.iconst 0, 1) := by decide +kernel
theorem dX5_isLapsed_27 : decode cX5_isLapsed 27 = .ok (.ireturn, 1) := by decide +kernel
theorem dX5_isTimeToRenew_0 : decode cX5_isTimeToRenew 0 = .ok (.aload_n 0, 1) := by decide +kernel
theorem dX5_isTimeToRenew_1 : decode cX5_isTimeToRenew 1 = .ok (.getfield 61, 3) := by decide +kernel
theorem dX5_isTimeToRenew_4 : decode cX5_isTimeToRenew 4 = .ok (.aload_n 0, 1) := by decide +kernel
theorem dX5_isTimeToRenew_5 : decode cX5_isTimeToRenew 5 = .ok (.invokevirtual 64, 3) := by decide +kernel
theorem dX5_isTimeToRenew_8 : decode cX5_isTimeToRenew 8 = .ok (.sipush 365, 3) := by decide +kernel
theorem dX5_isTimeToRenew_11 : decode cX5_isTimeToRenew 11 = .ok (.isub, 1) := by decide +kernel
theorem dX5_isTimeToRenew_12 : decode cX5_isTimeToRenew 12 = .ok (.if_icmp .lt 22, 3) := by decide +kernel
theorem dX5_isTimeToRenew_15 : decode cX5_isTimeToRenew 15 = .ok (.aload_n 0, 1) := by decide +kernel
theorem dX5_isTimeToRenew_16 : decode cX5_isTimeToRenew 16 = .ok (.getfield 61, 3) := by decide +kernel
theorem dX5_isTimeToRenew_19 : decode cX5_isTimeToRenew 19 = .ok (.aload_n 0, 1) := by decide +kernel
theorem dX5_isTimeToRenew_20 : decode cX5_isTimeToRenew 20 = .ok (.invokevirtual 64, 3) := by decide +kernel
theorem dX5_isTimeToRenew_23 : decode cX5_isTimeToRenew 23 = .ok (.sipush 180, 3) := by decide +kernel
theorem dX5_isTimeToRenew_26 : decode cX5_isTimeToRenew 26 = .ok (.iadd, 1) := by decide +kernel
theorem dX5_isTimeToRenew_27 : decode cX5_isTimeToRenew 27 = .ok (.if_icmp .gt 7, 3) := by decide +kernel
theorem dX5_isTimeToRenew_30 : decode cX5_isTimeToRenew 30 = .ok (.iconst 1, 1) := by decide +kernel
theorem dX5_isTimeToRenew_31 : decode cX5_isTimeToRenew 31 = .ok (.goto 4, 3) := by decide +kernel
theorem dX5_isTimeToRenew_34 : decode cX5_isTimeToRenew 34 = .ok (.iconst 0, 1) := by decide +kernel
theorem dX5_isTimeToRenew_35 : decode cX5_isTimeToRenew 35 = .ok (.ireturn, 1) := by decide +kernel
theorem dX5_find_0 : decode cX5_find 0 = .ok (.iconst 0, 1) := by decide +kernel
theorem dX5_find_1 : decode cX5_find 1 = .ok (.istore_n 2, 1) := by decide +kernel
theorem dX5_find_2 : decode cX5_find 2 = .ok (.iload_n 2, 1) := by decide +kernel
theorem dX5_find_3 : decode cX5_find 3 = .ok (.aload_n 0, 1) := by decide +kernel
theorem dX5_find_4 : decode cX5_find 4 = .ok (.getfield 68, 3) := by decide +kernel
theorem dX5_find_7 : decode cX5_find 7 = .ok (.if_icmp .ge 21, 3) := by decide +kernel
theorem dX5_find_10 : decode cX5_find 10 = .ok (.aload_n 0, 1) := by decide +kernel
theorem dX5_find_11 : decode cX5_find 11 = .ok (.getfield 11, 3) := by decide +kernel
theorem dX5_find_14 : decode cX5_find 14 = .ok (.iload_n 2, 1) := by decide +kernel
theorem dX5_find_15 : decode cX5_find 15 = .ok (.iaload, 1) := by decide +kernel
theorem dX5_find_16 : decode cX5_find 16 = .ok (.iload_n 1, 1) := by decide +kernel
theorem dX5_find_17 : decode cX5_find 17 = .ok (.if_icmp .ne 5, 3) := by decide +kernel
theorem dX5_find_20 : decode cX5_find 20 = .ok (.iload_n 2, 1) := by decide +kernel
theorem dX5_find_21 : decode cX5_find 21 = .ok (.ireturn, 1) := by decide +kernel
theorem dX5_find_22 : decode cX5_find 22 = .ok (.iinc 2 1, 3) := by decide +kernel
theorem dX5_find_25 : decode cX5_find 25 = .ok (.goto (-23), 3) := by decide +kernel
theorem dX5_find_28 : decode cX5_find 28 = .ok (.iconst (-1), 1) := by decide +kernel
theorem dX5_find_29 : decode cX5_find 29 = .ok (.ireturn, 1) := by decide +kernel
theorem dX5_keeps_0 : decode cX5_keeps 0 = .ok (.aload_n 0, 1) := by decide +kernel
theorem dX5_keeps_1 : decode cX5_keeps 1 = .ok (.iload_n 1, 1) := by decide +kernel
theorem dX5_keeps_2 : decode cX5_keeps 2 = .ok (.invokevirtual 69, 3) := by decide +kernel
theorem dX5_keeps_5 : decode cX5_keeps 5 = .ok (.istore_n 2, 1) := by decide +kernel
theorem dX5_keeps_6 : decode cX5_keeps 6 = .ok (.iload_n 2, 1) := by decide +kernel
theorem dX5_keeps_7 : decode cX5_keeps 7 = .ok (.iconst (-1), 1) := by decide +kernel
theorem dX5_keeps_8 : decode cX5_keeps 8 = .ok (.if_icmp .eq 16, 3) := by decide +kernel
theorem dX5_keeps_11 : decode cX5_keeps 11 = .ok (.aload_n 0, 1) := by decide +kernel
theorem dX5_keeps_12 : decode cX5_keeps 12 = .ok (.getfield 21, 3) := by decide +kernel
theorem dX5_keeps_15 : decode cX5_keeps 15 = .ok (.iload_n 2, 1) := by decide +kernel
theorem dX5_keeps_16 : decode cX5_keeps 16 = .ok (.baload, 1) := by decide +kernel
theorem dX5_keeps_17 : decode cX5_keeps 17 = .ok (.ifCond .ne 7, 3) := by decide +kernel
theorem dX5_keeps_20 : decode cX5_keeps 20 = .ok (.iconst 1, 1) := by decide +kernel
theorem dX5_keeps_21 : decode cX5_keeps 21 = .ok (.goto 4, 3) := by decide +kernel
theorem dX5_keeps_24 : decode cX5_keeps 24 = .ok (.iconst 0, 1) := by decide +kernel
theorem dX5_keeps_25 : decode cX5_keeps 25 = .ok (.ireturn, 1) := by decide +kernel
theorem dX5_sinceAt_0 : decode cX5_sinceAt 0 = .ok (.iload_n 1, 1) := by decide +kernel
theorem dX5_sinceAt_1 : decode cX5_sinceAt 1 = .ok (.aload_n 0, 1) := by decide +kernel
theorem dX5_sinceAt_2 : decode cX5_sinceAt 2 = .ok (.getfield 68, 3) := by decide +kernel
theorem dX5_sinceAt_5 : decode cX5_sinceAt 5 = .ok (.invokestatic 73, 3) := by decide +kernel
theorem dX5_sinceAt_8 : decode cX5_sinceAt 8 = .ok (.ifCond .eq 12, 3) := by decide +kernel
theorem dX5_sinceAt_11 : decode cX5_sinceAt 11 = .ok (.aload_n 0, 1) := by decide +kernel
theorem dX5_sinceAt_12 : decode cX5_sinceAt 12 = .ok (.getfield 15, 3) := by decide +kernel
theorem dX5_sinceAt_15 : decode cX5_sinceAt 15 = .ok (.iload_n 1, 1) := by decide +kernel
theorem dX5_sinceAt_16 : decode cX5_sinceAt 16 = .ok (.iaload, 1) := by decide +kernel
theorem dX5_sinceAt_17 : decode cX5_sinceAt 17 = .ok (.goto 4, 3) := by decide +kernel
theorem dX5_sinceAt_20 : decode cX5_sinceAt 20 = .ok (.iconst (-1), 1) := by decide +kernel
theorem dX5_sinceAt_21 : decode cX5_sinceAt 21 = .ok (.ireturn, 1) := by decide +kernel
theorem dX5_rightAt_0 : decode cX5_rightAt 0 = .ok (.iload_n 1, 1) := by decide +kernel
theorem dX5_rightAt_1 : decode cX5_rightAt 1 = .ok (.aload_n 0, 1) := by decide +kernel
theorem dX5_rightAt_2 : decode cX5_rightAt 2 = .ok (.getfield 68, 3) := by decide +kernel
theorem dX5_rightAt_5 : decode cX5_rightAt 5 = .ok (.invokestatic 73, 3) := by decide +kernel
theorem dX5_rightAt_8 : decode cX5_rightAt 8 = .ok (.ifCond .eq 11, 3) := by decide +kernel
theorem dX5_rightAt_11 : decode cX5_rightAt 11 = .ok (.aload_n 0, 1) := by decide +kernel
theorem dX5_rightAt_12 : decode cX5_rightAt 12 = .ok (.getfield 77, 3) := by decide +kernel
theorem dX5_rightAt_15 : decode cX5_rightAt 15 = .ok (.iconst (-1), 1) := by decide +kernel
theorem dX5_rightAt_16 : decode cX5_rightAt 16 = .ok (.if_icmp .ne 5, 3) := by decide +kernel
theorem dX5_rightAt_19 : decode cX5_rightAt 19 = .ok (.iconst (-1), 1) := by decide +kernel
theorem dX5_rightAt_20 : decode cX5_rightAt 20 = .ok (.ireturn, 1) := by decide +kernel
theorem dX5_rightAt_21 : decode cX5_rightAt 21 = .ok (.aload_n 0, 1) := by decide +kernel
theorem dX5_rightAt_22 : decode cX5_rightAt 22 = .ok (.getfield 77, 3) := by decide +kernel
theorem dX5_rightAt_25 : decode cX5_rightAt 25 = .ok (.aload_n 0, 1) := by decide +kernel
theorem dX5_rightAt_26 : decode cX5_rightAt 26 = .ok (.getfield 51, 3) := by decide +kernel
theorem dX5_rightAt_29 : decode cX5_rightAt 29 = .ok (.isub, 1) := by decide +kernel
theorem dX5_rightAt_30 : decode cX5_rightAt 30 = .ok (.sipush 182, 3) := by decide +kernel
theorem dX5_rightAt_33 : decode cX5_rightAt 33 = .ok (.if_icmp .gt 20, 3) := by decide +kernel
theorem dX5_rightAt_36 : decode cX5_rightAt 36 = .ok (.aload_n 0, 1) := by decide +kernel
theorem dX5_rightAt_37 : decode cX5_rightAt 37 = .ok (.getfield 15, 3) := by decide +kernel
theorem dX5_rightAt_40 : decode cX5_rightAt 40 = .ok (.iload_n 1, 1) := by decide +kernel
theorem dX5_rightAt_41 : decode cX5_rightAt 41 = .ok (.iaload, 1) := by decide +kernel
theorem dX5_rightAt_42 : decode cX5_rightAt 42 = .ok (.aload_n 0, 1) := by decide +kernel
theorem dX5_rightAt_43 : decode cX5_rightAt 43 = .ok (.getfield 51, 3) := by decide +kernel
theorem dX5_rightAt_46 : decode cX5_rightAt 46 = .ok (.if_icmp .gt 7, 3) := by decide +kernel
theorem dX5_rightAt_49 : decode cX5_rightAt 49 = .ok (.iconst 1, 1) := by decide +kernel
theorem dX5_rightAt_50 : decode cX5_rightAt 50 = .ok (.goto 4, 3) := by decide +kernel
theorem dX5_rightAt_53 : decode cX5_rightAt 53 = .ok (.iconst 0, 1) := by decide +kernel
theorem dX5_rightAt_54 : decode cX5_rightAt 54 = .ok (.istore_n 2, 1) := by decide +kernel
theorem dX5_rightAt_55 : decode cX5_rightAt 55 = .ok (.iload_n 2, 1) := by decide +kernel
theorem dX5_rightAt_56 : decode cX5_rightAt 56 = .ok (.ifCond .eq 10, 3) := by decide +kernel
theorem dX5_rightAt_59 : decode cX5_rightAt 59 = .ok (.aload_n 0, 1) := by decide +kernel
theorem dX5_rightAt_60 : decode cX5_rightAt 60 = .ok (.getfield 51, 3) := by decide +kernel
theorem dX5_rightAt_63 : decode cX5_rightAt 63 = .ok (.goto 7, 3) := by decide +kernel
theorem dX5_rightAt_66 : decode cX5_rightAt 66 = .ok (.aload_n 0, 1) := by decide +kernel
theorem dX5_rightAt_67 : decode cX5_rightAt 67 = .ok (.getfield 77, 3) := by decide +kernel
theorem dX5_rightAt_70 : decode cX5_rightAt 70 = .ok (.aload_n 0, 1) := by decide +kernel
theorem dX5_rightAt_71 : decode cX5_rightAt 71 = .ok (.getfield 15, 3) := by decide +kernel
theorem dX5_rightAt_74 : decode cX5_rightAt 74 = .ok (.iload_n 1, 1) := by decide +kernel
theorem dX5_rightAt_75 : decode cX5_rightAt 75 = .ok (.iaload, 1) := by decide +kernel
theorem dX5_rightAt_76 : decode cX5_rightAt 76 = .ok (.invokestatic 80, 3) := by decide +kernel
theorem dX5_rightAt_79 : decode cX5_rightAt 79 = .ok (.ireturn, 1) := by decide +kernel
theorem dX5_standsAt_0 : decode cX5_standsAt 0 = .ok (.aload_n 0, 1) := by decide +kernel
theorem dX5_standsAt_1 : decode cX5_standsAt 1 = .ok (.iload_n 1, 1) := by decide +kernel
theorem dX5_standsAt_2 : decode cX5_standsAt 2 = .ok (.invokevirtual 86, 3) := by decide +kernel
theorem dX5_standsAt_5 : decode cX5_standsAt 5 = .ok (.istore_n 2, 1) := by decide +kernel
theorem dX5_standsAt_6 : decode cX5_standsAt 6 = .ok (.iload_n 2, 1) := by decide +kernel
theorem dX5_standsAt_7 : decode cX5_standsAt 7 = .ok (.iconst (-1), 1) := by decide +kernel
theorem dX5_standsAt_8 : decode cX5_standsAt 8 = .ok (.if_icmp .eq 17, 3) := by decide +kernel
theorem dX5_standsAt_11 : decode cX5_standsAt 11 = .ok (.aload_n 0, 1) := by decide +kernel
theorem dX5_standsAt_12 : decode cX5_standsAt 12 = .ok (.getfield 89, 3) := by decide +kernel
theorem dX5_standsAt_15 : decode cX5_standsAt 15 = .ok (.ifCond .ne 10, 3) := by decide +kernel
theorem dX5_standsAt_18 : decode cX5_standsAt 18 = .ok (.aload_n 0, 1) := by decide +kernel
theorem dX5_standsAt_19 : decode cX5_standsAt 19 = .ok (.invokevirtual 93, 3) := by decide +kernel
theorem dX5_standsAt_22 : decode cX5_standsAt 22 = .ok (.ifCond .eq 5, 3) := by decide +kernel
theorem dX5_standsAt_25 : decode cX5_standsAt 25 = .ok (.iconst 0, 1) := by decide +kernel
theorem dX5_standsAt_26 : decode cX5_standsAt 26 = .ok (.ireturn, 1) := by decide +kernel
theorem dX5_standsAt_27 : decode cX5_standsAt 27 = .ok (.aload_n 0, 1) := by decide +kernel
theorem dX5_standsAt_28 : decode cX5_standsAt 28 = .ok (.getfield 61, 3) := by decide +kernel
theorem dX5_standsAt_31 : decode cX5_standsAt 31 = .ok (.iload_n 2, 1) := by decide +kernel
theorem dX5_standsAt_32 : decode cX5_standsAt 32 = .ok (.aload_n 0, 1) := by decide +kernel
theorem dX5_standsAt_33 : decode cX5_standsAt 33 = .ok (.getfield 18, 3) := by decide +kernel
theorem dX5_standsAt_36 : decode cX5_standsAt 36 = .ok (.iload_n 1, 1) := by decide +kernel
theorem dX5_standsAt_37 : decode cX5_standsAt 37 = .ok (.iaload, 1) := by decide +kernel
theorem dX5_standsAt_38 : decode cX5_standsAt 38 = .ok (.invokestatic 80, 3) := by decide +kernel
theorem dX5_standsAt_41 : decode cX5_standsAt 41 = .ok (.isub, 1) := by decide +kernel
theorem dX5_standsAt_42 : decode cX5_standsAt 42 = .ok (.sipush 1825, 3) := by decide +kernel
theorem dX5_standsAt_45 : decode cX5_standsAt 45 = .ok (.if_icmp .gt 7, 3) := by decide +kernel
theorem dX5_standsAt_48 : decode cX5_standsAt 48 = .ok (.iconst 1, 1) := by decide +kernel
theorem dX5_standsAt_49 : decode cX5_standsAt 49 = .ok (.goto 4, 3) := by decide +kernel
theorem dX5_standsAt_52 : decode cX5_standsAt 52 = .ok (.iconst 0, 1) := by decide +kernel
theorem dX5_standsAt_53 : decode cX5_standsAt 53 = .ok (.ireturn, 1) := by decide +kernel
theorem dX5_standsForAny_0 : decode cX5_standsForAny 0 = .ok (.iconst 0, 1) := by decide +kernel
theorem dX5_standsForAny_1 : decode cX5_standsForAny 1 = .ok (.istore_n 1, 1) := by decide +kernel
theorem dX5_standsForAny_2 : decode cX5_standsForAny 2 = .ok (.iload_n 1, 1) := by decide +kernel
theorem dX5_standsForAny_3 : decode cX5_standsForAny 3 = .ok (.aload_n 0, 1) := by decide +kernel
theorem dX5_standsForAny_4 : decode cX5_standsForAny 4 = .ok (.getfield 68, 3) := by decide +kernel
theorem dX5_standsForAny_7 : decode cX5_standsForAny 7 = .ok (.if_icmp .ge 19, 3) := by decide +kernel
theorem dX5_standsForAny_10 : decode cX5_standsForAny 10 = .ok (.aload_n 0, 1) := by decide +kernel
theorem dX5_standsForAny_11 : decode cX5_standsForAny 11 = .ok (.iload_n 1, 1) := by decide +kernel
theorem dX5_standsForAny_12 : decode cX5_standsForAny 12 = .ok (.invokevirtual 96, 3) := by decide +kernel
theorem dX5_standsForAny_15 : decode cX5_standsForAny 15 = .ok (.ifCond .eq 5, 3) := by decide +kernel
theorem dX5_standsForAny_18 : decode cX5_standsForAny 18 = .ok (.iconst 1, 1) := by decide +kernel
theorem dX5_standsForAny_19 : decode cX5_standsForAny 19 = .ok (.ireturn, 1) := by decide +kernel
theorem dX5_standsForAny_20 : decode cX5_standsForAny 20 = .ok (.iinc 1 1, 3) := by decide +kernel
theorem dX5_standsForAny_23 : decode cX5_standsForAny 23 = .ok (.goto (-21), 3) := by decide +kernel
theorem dX5_standsForAny_26 : decode cX5_standsForAny 26 = .ok (.iconst 0, 1) := by decide +kernel
theorem dX5_standsForAny_27 : decode cX5_standsForAny 27 = .ok (.ireturn, 1) := by decide +kernel
theorem dX5_clear_0 : decode cX5_clear 0 = .ok (.aload_n 0, 1) := by decide +kernel
theorem dX5_clear_1 : decode cX5_clear 1 = .ok (.iload_n 1, 1) := by decide +kernel
theorem dX5_clear_2 : decode cX5_clear 2 = .ok (.putfield 61, 3) := by decide +kernel
theorem dX5_clear_5 : decode cX5_clear 5 = .ok (.aload_n 0, 1) := by decide +kernel
theorem dX5_clear_6 : decode cX5_clear 6 = .ok (.iconst (-1), 1) := by decide +kernel
theorem dX5_clear_7 : decode cX5_clear 7 = .ok (.putfield 51, 3) := by decide +kernel
theorem dX5_clear_10 : decode cX5_clear 10 = .ok (.aload_n 0, 1) := by decide +kernel
theorem dX5_clear_11 : decode cX5_clear 11 = .ok (.iconst (-1), 1) := by decide +kernel
theorem dX5_clear_12 : decode cX5_clear 12 = .ok (.putfield 77, 3) := by decide +kernel
theorem dX5_clear_15 : decode cX5_clear 15 = .ok (.aload_n 0, 1) := by decide +kernel
theorem dX5_clear_16 : decode cX5_clear 16 = .ok (.iconst 0, 1) := by decide +kernel
theorem dX5_clear_17 : decode cX5_clear 17 = .ok (.putfield 100, 3) := by decide +kernel
theorem dX5_clear_20 : decode cX5_clear 20 = .ok (.aload_n 0, 1) := by decide +kernel
theorem dX5_clear_21 : decode cX5_clear 21 = .ok (.iconst 0, 1) := by decide +kernel
theorem dX5_clear_22 : decode cX5_clear 22 = .ok (.putfield 58, 3) := by decide +kernel
theorem dX5_clear_25 : decode cX5_clear 25 = .ok (.aload_n 0, 1) := by decide +kernel
theorem dX5_clear_26 : decode cX5_clear 26 = .ok (.iconst 0, 1) := by decide +kernel
theorem dX5_clear_27 : decode cX5_clear 27 = .ok (.putfield 89, 3) := by decide +kernel
theorem dX5_clear_30 : decode cX5_clear 30 = .ok (.aload_n 0, 1) := by decide +kernel
theorem dX5_clear_31 : decode cX5_clear 31 = .ok (.iconst 0, 1) := by decide +kernel
theorem dX5_clear_32 : decode cX5_clear 32 = .ok (.putfield 103, 3) := by decide +kernel
theorem dX5_clear_35 : decode cX5_clear 35 = .ok (.aload_n 0, 1) := by decide +kernel
theorem dX5_clear_36 : decode cX5_clear 36 = .ok (.iconst 0, 1) := by decide +kernel
theorem dX5_clear_37 : decode cX5_clear 37 = .ok (.putfield 106, 3) := by decide +kernel
theorem dX5_clear_40 : decode cX5_clear 40 = .ok (.aload_n 0, 1) := by decide +kernel
theorem dX5_clear_41 : decode cX5_clear 41 = .ok (.iconst 0, 1) := by decide +kernel
theorem dX5_clear_42 : decode cX5_clear 42 = .ok (.putfield 68, 3) := by decide +kernel
theorem dX5_clear_45 : decode cX5_clear 45 = .ok (.return_, 1) := by decide +kernel
theorem dX5_readPaper_0 : decode cX5_readPaper 0 = .ok (.iload_n 1, 1) := by decide +kernel
theorem dX5_readPaper_1 : decode cX5_readPaper 1 = .ok (.tableswitch 114 0 7 #[47, 56, 67, 80, 89, 114, 97, 106], 47) := by decide +kernel
theorem dX5_readPaper_48 : decode cX5_readPaper 48 = .ok (.aload_n 0, 1) := by decide +kernel
theorem dX5_readPaper_49 : decode cX5_readPaper 49 = .ok (.iload_n 2, 1) := by decide +kernel
theorem dX5_readPaper_50 : decode cX5_readPaper 50 = .ok (.iload_n 3, 1) := by decide +kernel
theorem dX5_readPaper_51 : decode cX5_readPaper 51 = .ok (.invokevirtual 109, 3) := by decide +kernel
theorem dX5_readPaper_54 : decode cX5_readPaper 54 = .ok (.goto 61, 3) := by decide +kernel
theorem dX5_readPaper_57 : decode cX5_readPaper 57 = .ok (.aload_n 0, 1) := by decide +kernel
theorem dX5_readPaper_58 : decode cX5_readPaper 58 = .ok (.iload_n 2, 1) := by decide +kernel
theorem dX5_readPaper_59 : decode cX5_readPaper 59 = .ok (.iload_n 3, 1) := by decide +kernel
theorem dX5_readPaper_60 : decode cX5_readPaper 60 = .ok (.iload 4, 2) := by decide +kernel
theorem dX5_readPaper_62 : decode cX5_readPaper 62 = .ok (.invokevirtual 113, 3) := by decide +kernel
theorem dX5_readPaper_65 : decode cX5_readPaper 65 = .ok (.goto 50, 3) := by decide +kernel
theorem dX5_readPaper_68 : decode cX5_readPaper 68 = .ok (.aload_n 0, 1) := by decide +kernel
theorem dX5_readPaper_69 : decode cX5_readPaper 69 = .ok (.dup, 1) := by decide +kernel
theorem dX5_readPaper_70 : decode cX5_readPaper 70 = .ok (.getfield 58, 3) := by decide +kernel
theorem dX5_readPaper_73 : decode cX5_readPaper 73 = .ok (.iconst 1, 1) := by decide +kernel
theorem dX5_readPaper_74 : decode cX5_readPaper 74 = .ok (.iadd, 1) := by decide +kernel
theorem dX5_readPaper_75 : decode cX5_readPaper 75 = .ok (.putfield 58, 3) := by decide +kernel
theorem dX5_readPaper_78 : decode cX5_readPaper 78 = .ok (.goto 37, 3) := by decide +kernel
theorem dX5_readPaper_81 : decode cX5_readPaper 81 = .ok (.aload_n 0, 1) := by decide +kernel
theorem dX5_readPaper_82 : decode cX5_readPaper 82 = .ok (.iload_n 2, 1) := by decide +kernel
theorem dX5_readPaper_83 : decode cX5_readPaper 83 = .ok (.iload_n 3, 1) := by decide +kernel
theorem dX5_readPaper_84 : decode cX5_readPaper 84 = .ok (.invokevirtual 117, 3) := by decide +kernel
theorem dX5_readPaper_87 : decode cX5_readPaper 87 = .ok (.goto 28, 3) := by decide +kernel
theorem dX5_readPaper_90 : decode cX5_readPaper 90 = .ok (.aload_n 0, 1) := by decide +kernel
theorem dX5_readPaper_91 : decode cX5_readPaper 91 = .ok (.iconst 1, 1) := by decide +kernel
theorem dX5_readPaper_92 : decode cX5_readPaper 92 = .ok (.putfield 89, 3) := by decide +kernel
theorem dX5_readPaper_95 : decode cX5_readPaper 95 = .ok (.goto 20, 3) := by decide +kernel
theorem dX5_readPaper_98 : decode cX5_readPaper 98 = .ok (.aload_n 0, 1) := by decide +kernel
theorem dX5_readPaper_99 : decode cX5_readPaper 99 = .ok (.iload_n 2, 1) := by decide +kernel
theorem dX5_readPaper_100 : decode cX5_readPaper 100 = .ok (.iload_n 3, 1) := by decide +kernel
theorem dX5_readPaper_101 : decode cX5_readPaper 101 = .ok (.invokevirtual 120, 3) := by decide +kernel
theorem dX5_readPaper_104 : decode cX5_readPaper 104 = .ok (.goto 11, 3) := by decide +kernel
theorem dX5_readPaper_107 : decode cX5_readPaper 107 = .ok (.aload_n 0, 1) := by decide +kernel
theorem dX5_readPaper_108 : decode cX5_readPaper 108 = .ok (.iconst 1, 1) := by decide +kernel
theorem dX5_readPaper_109 : decode cX5_readPaper 109 = .ok (.putfield 103, 3) := by decide +kernel
theorem dX5_readPaper_112 : decode cX5_readPaper 112 = .ok (.goto 3, 3) := by decide +kernel
theorem dX5_readPaper_115 : decode cX5_readPaper 115 = .ok (.return_, 1) := by decide +kernel
theorem dX5_readEnter_0 : decode cX5_readEnter 0 = .ok (.aload_n 0, 1) := by decide +kernel
theorem dX5_readEnter_1 : decode cX5_readEnter 1 = .ok (.dup, 1) := by decide +kernel
theorem dX5_readEnter_2 : decode cX5_readEnter 2 = .ok (.getfield 100, 3) := by decide +kernel
theorem dX5_readEnter_5 : decode cX5_readEnter 5 = .ok (.iconst 1, 1) := by decide +kernel
theorem dX5_readEnter_6 : decode cX5_readEnter 6 = .ok (.iadd, 1) := by decide +kernel
theorem dX5_readEnter_7 : decode cX5_readEnter 7 = .ok (.putfield 100, 3) := by decide +kernel
theorem dX5_readEnter_10 : decode cX5_readEnter 10 = .ok (.aload_n 0, 1) := by decide +kernel
theorem dX5_readEnter_11 : decode cX5_readEnter 11 = .ok (.getfield 51, 3) := by decide +kernel
theorem dX5_readEnter_14 : decode cX5_readEnter 14 = .ok (.iconst (-1), 1) := by decide +kernel
theorem dX5_readEnter_15 : decode cX5_readEnter 15 = .ok (.if_icmp .ne 8, 3) := by decide +kernel
theorem dX5_readEnter_18 : decode cX5_readEnter 18 = .ok (.aload_n 0, 1) := by decide +kernel
theorem dX5_readEnter_19 : decode cX5_readEnter 19 = .ok (.iload_n 2, 1) := by decide +kernel
theorem dX5_readEnter_20 : decode cX5_readEnter 20 = .ok (.putfield 51, 3) := by decide +kernel
theorem dX5_readEnter_23 : decode cX5_readEnter 23 = .ok (.iload_n 1, 1) := by decide +kernel
theorem dX5_readEnter_24 : decode cX5_readEnter 24 = .ok (.iload_n 3, 1) := by decide +kernel
theorem dX5_readEnter_25 : decode cX5_readEnter 25 = .ok (.if_icmp .ne 8, 3) := by decide +kernel
theorem dX5_readEnter_28 : decode cX5_readEnter 28 = .ok (.aload_n 0, 1) := by decide +kernel
theorem dX5_readEnter_29 : decode cX5_readEnter 29 = .ok (.iload_n 2, 1) := by decide +kernel
theorem dX5_readEnter_30 : decode cX5_readEnter 30 = .ok (.putfield 77, 3) := by decide +kernel
theorem dX5_readEnter_33 : decode cX5_readEnter 33 = .ok (.return_, 1) := by decide +kernel
theorem dX5_readGoods_0 : decode cX5_readGoods 0 = .ok (.aload_n 0, 1) := by decide +kernel
theorem dX5_readGoods_1 : decode cX5_readGoods 1 = .ok (.iconst 1, 1) := by decide +kernel
theorem dX5_readGoods_2 : decode cX5_readGoods 2 = .ok (.putfield 106, 3) := by decide +kernel
theorem dX5_readGoods_5 : decode cX5_readGoods 5 = .ok (.aload_n 0, 1) := by decide +kernel
theorem dX5_readGoods_6 : decode cX5_readGoods 6 = .ok (.iload_n 1, 1) := by decide +kernel
theorem dX5_readGoods_7 : decode cX5_readGoods 7 = .ok (.invokevirtual 69, 3) := by decide +kernel
theorem dX5_readGoods_10 : decode cX5_readGoods 10 = .ok (.istore_n 3, 1) := by decide +kernel
theorem dX5_readGoods_11 : decode cX5_readGoods 11 = .ok (.iload_n 3, 1) := by decide +kernel
theorem dX5_readGoods_12 : decode cX5_readGoods 12 = .ok (.iconst (-1), 1) := by decide +kernel
theorem dX5_readGoods_13 : decode cX5_readGoods 13 = .ok (.if_icmp .ne 42, 3) := by decide +kernel
theorem dX5_readGoods_16 : decode cX5_readGoods 16 = .ok (.aload_n 0, 1) := by decide +kernel
theorem dX5_readGoods_17 : decode cX5_readGoods 17 = .ok (.getfield 68, 3) := by decide +kernel
theorem dX5_readGoods_20 : decode cX5_readGoods 20 = .ok (.bipush 20, 2) := by decide +kernel
theorem dX5_readGoods_22 : decode cX5_readGoods 22 = .ok (.if_icmp .lt 4, 3) := by decide +kernel
theorem dX5_readGoods_25 : decode cX5_readGoods 25 = .ok (.return_, 1) := by decide +kernel
theorem dX5_readGoods_26 : decode cX5_readGoods 26 = .ok (.aload_n 0, 1) := by decide +kernel
theorem dX5_readGoods_27 : decode cX5_readGoods 27 = .ok (.getfield 68, 3) := by decide +kernel
theorem dX5_readGoods_30 : decode cX5_readGoods 30 = .ok (.istore_n 3, 1) := by decide +kernel
theorem dX5_readGoods_31 : decode cX5_readGoods 31 = .ok (.aload_n 0, 1) := by decide +kernel
theorem dX5_readGoods_32 : decode cX5_readGoods 32 = .ok (.dup, 1) := by decide +kernel
theorem dX5_readGoods_33 : decode cX5_readGoods 33 = .ok (.getfield 68, 3) := by decide +kernel
theorem dX5_readGoods_36 : decode cX5_readGoods 36 = .ok (.iconst 1, 1) := by decide +kernel
theorem dX5_readGoods_37 : decode cX5_readGoods 37 = .ok (.iadd, 1) := by decide +kernel
theorem dX5_readGoods_38 : decode cX5_readGoods 38 = .ok (.putfield 68, 3) := by decide +kernel
theorem dX5_readGoods_41 : decode cX5_readGoods 41 = .ok (.aload_n 0, 1) := by decide +kernel
theorem dX5_readGoods_42 : decode cX5_readGoods 42 = .ok (.getfield 11, 3) := by decide +kernel
theorem dX5_readGoods_45 : decode cX5_readGoods 45 = .ok (.iload_n 3, 1) := by decide +kernel
theorem dX5_readGoods_46 : decode cX5_readGoods 46 = .ok (.iload_n 1, 1) := by decide +kernel
theorem dX5_readGoods_47 : decode cX5_readGoods 47 = .ok (.iastore, 1) := by decide +kernel
theorem dX5_readGoods_48 : decode cX5_readGoods 48 = .ok (.aload_n 0, 1) := by decide +kernel
theorem dX5_readGoods_49 : decode cX5_readGoods 49 = .ok (.getfield 18, 3) := by decide +kernel
theorem dX5_readGoods_52 : decode cX5_readGoods 52 = .ok (.iload_n 3, 1) := by decide +kernel
theorem dX5_readGoods_53 : decode cX5_readGoods 53 = .ok (.iconst (-1), 1) := by decide +kernel
theorem dX5_readGoods_54 : decode cX5_readGoods 54 = .ok (.iastore, 1) := by decide +kernel
theorem dX5_readGoods_55 : decode cX5_readGoods 55 = .ok (.aload_n 0, 1) := by decide +kernel
theorem dX5_readGoods_56 : decode cX5_readGoods 56 = .ok (.getfield 15, 3) := by decide +kernel
theorem dX5_readGoods_59 : decode cX5_readGoods 59 = .ok (.iload_n 3, 1) := by decide +kernel
theorem dX5_readGoods_60 : decode cX5_readGoods 60 = .ok (.iload_n 2, 1) := by decide +kernel
theorem dX5_readGoods_61 : decode cX5_readGoods 61 = .ok (.iastore, 1) := by decide +kernel
theorem dX5_readGoods_62 : decode cX5_readGoods 62 = .ok (.aload_n 0, 1) := by decide +kernel
theorem dX5_readGoods_63 : decode cX5_readGoods 63 = .ok (.getfield 21, 3) := by decide +kernel
theorem dX5_readGoods_66 : decode cX5_readGoods 66 = .ok (.iload_n 3, 1) := by decide +kernel
theorem dX5_readGoods_67 : decode cX5_readGoods 67 = .ok (.iconst 0, 1) := by decide +kernel
theorem dX5_readGoods_68 : decode cX5_readGoods 68 = .ok (.bastore, 1) := by decide +kernel
theorem dX5_readGoods_69 : decode cX5_readGoods 69 = .ok (.return_, 1) := by decide +kernel
theorem dX5_readGive_0 : decode cX5_readGive 0 = .ok (.aload_n 0, 1) := by decide +kernel
theorem dX5_readGive_1 : decode cX5_readGive 1 = .ok (.iload_n 1, 1) := by decide +kernel
theorem dX5_readGive_2 : decode cX5_readGive 2 = .ok (.invokevirtual 69, 3) := by decide +kernel
theorem dX5_readGive_5 : decode cX5_readGive 5 = .ok (.istore_n 3, 1) := by decide +kernel
theorem dX5_readGive_6 : decode cX5_readGive 6 = .ok (.iload_n 3, 1) := by decide +kernel
theorem dX5_readGive_7 : decode cX5_readGive 7 = .ok (.iconst (-1), 1) := by decide +kernel
theorem dX5_readGive_8 : decode cX5_readGive 8 = .ok (.if_icmp .ne 4, 3) := by decide +kernel
theorem dX5_readGive_11 : decode cX5_readGive 11 = .ok (.return_, 1) := by decide +kernel
theorem dX5_readGive_12 : decode cX5_readGive 12 = .ok (.iload_n 2, 1) := by decide +kernel
theorem dX5_readGive_13 : decode cX5_readGive 13 = .ok (.aload_n 0, 1) := by decide +kernel
theorem dX5_readGive_14 : decode cX5_readGive 14 = .ok (.getfield 61, 3) := by decide +kernel
theorem dX5_readGive_17 : decode cX5_readGive 17 = .ok (.if_icmp .ne 11, 3) := by decide +kernel
theorem dX5_readGive_20 : decode cX5_readGive 20 = .ok (.aload_n 0, 1) := by decide +kernel
theorem dX5_readGive_21 : decode cX5_readGive 21 = .ok (.getfield 21, 3) := by decide +kernel
theorem dX5_readGive_24 : decode cX5_readGive 24 = .ok (.iload_n 3, 1) := by decide +kernel
theorem dX5_readGive_25 : decode cX5_readGive 25 = .ok (.iconst 1, 1) := by decide +kernel
theorem dX5_readGive_26 : decode cX5_readGive 26 = .ok (.bastore, 1) := by decide +kernel
theorem dX5_readGive_27 : decode cX5_readGive 27 = .ok (.return_, 1) := by decide +kernel
theorem dX5_readGive_28 : decode cX5_readGive 28 = .ok (.aload_n 0, 1) := by decide +kernel
theorem dX5_readGive_29 : decode cX5_readGive 29 = .ok (.dup, 1) := by decide +kernel
theorem dX5_readGive_30 : decode cX5_readGive 30 = .ok (.getfield 68, 3) := by decide +kernel
theorem dX5_readGive_33 : decode cX5_readGive 33 = .ok (.iconst 1, 1) := by decide +kernel
theorem dX5_readGive_34 : decode cX5_readGive 34 = .ok (.isub, 1) := by decide +kernel
theorem dX5_readGive_35 : decode cX5_readGive 35 = .ok (.putfield 68, 3) := by decide +kernel
theorem dX5_readGive_38 : decode cX5_readGive 38 = .ok (.aload_n 0, 1) := by decide +kernel
theorem dX5_readGive_39 : decode cX5_readGive 39 = .ok (.getfield 11, 3) := by decide +kernel
theorem dX5_readGive_42 : decode cX5_readGive 42 = .ok (.iload_n 3, 1) := by decide +kernel
theorem dX5_readGive_43 : decode cX5_readGive 43 = .ok (.aload_n 0, 1) := by decide +kernel
theorem dX5_readGive_44 : decode cX5_readGive 44 = .ok (.getfield 11, 3) := by decide +kernel
theorem dX5_readGive_47 : decode cX5_readGive 47 = .ok (.aload_n 0, 1) := by decide +kernel
theorem dX5_readGive_48 : decode cX5_readGive 48 = .ok (.getfield 68, 3) := by decide +kernel
theorem dX5_readGive_51 : decode cX5_readGive 51 = .ok (.iaload, 1) := by decide +kernel
theorem dX5_readGive_52 : decode cX5_readGive 52 = .ok (.iastore, 1) := by decide +kernel
theorem dX5_readGive_53 : decode cX5_readGive 53 = .ok (.aload_n 0, 1) := by decide +kernel
theorem dX5_readGive_54 : decode cX5_readGive 54 = .ok (.getfield 15, 3) := by decide +kernel
theorem dX5_readGive_57 : decode cX5_readGive 57 = .ok (.iload_n 3, 1) := by decide +kernel
theorem dX5_readGive_58 : decode cX5_readGive 58 = .ok (.aload_n 0, 1) := by decide +kernel
theorem dX5_readGive_59 : decode cX5_readGive 59 = .ok (.getfield 15, 3) := by decide +kernel
theorem dX5_readGive_62 : decode cX5_readGive 62 = .ok (.aload_n 0, 1) := by decide +kernel
theorem dX5_readGive_63 : decode cX5_readGive 63 = .ok (.getfield 68, 3) := by decide +kernel
theorem dX5_readGive_66 : decode cX5_readGive 66 = .ok (.iaload, 1) := by decide +kernel
theorem dX5_readGive_67 : decode cX5_readGive 67 = .ok (.iastore, 1) := by decide +kernel
theorem dX5_readGive_68 : decode cX5_readGive 68 = .ok (.aload_n 0, 1) := by decide +kernel
theorem dX5_readGive_69 : decode cX5_readGive 69 = .ok (.getfield 18, 3) := by decide +kernel
theorem dX5_readGive_72 : decode cX5_readGive 72 = .ok (.iload_n 3, 1) := by decide +kernel
theorem dX5_readGive_73 : decode cX5_readGive 73 = .ok (.aload_n 0, 1) := by decide +kernel
theorem dX5_readGive_74 : decode cX5_readGive 74 = .ok (.getfield 18, 3) := by decide +kernel
theorem dX5_readGive_77 : decode cX5_readGive 77 = .ok (.aload_n 0, 1) := by decide +kernel
theorem dX5_readGive_78 : decode cX5_readGive 78 = .ok (.getfield 68, 3) := by decide +kernel
theorem dX5_readGive_81 : decode cX5_readGive 81 = .ok (.iaload, 1) := by decide +kernel
theorem dX5_readGive_82 : decode cX5_readGive 82 = .ok (.iastore, 1) := by decide +kernel
theorem dX5_readGive_83 : decode cX5_readGive 83 = .ok (.aload_n 0, 1) := by decide +kernel
theorem dX5_readGive_84 : decode cX5_readGive 84 = .ok (.getfield 21, 3) := by decide +kernel
theorem dX5_readGive_87 : decode cX5_readGive 87 = .ok (.iload_n 3, 1) := by decide +kernel
theorem dX5_readGive_88 : decode cX5_readGive 88 = .ok (.aload_n 0, 1) := by decide +kernel
theorem dX5_readGive_89 : decode cX5_readGive 89 = .ok (.getfield 21, 3) := by decide +kernel
theorem dX5_readGive_92 : decode cX5_readGive 92 = .ok (.aload_n 0, 1) := by decide +kernel
theorem dX5_readGive_93 : decode cX5_readGive 93 = .ok (.getfield 68, 3) := by decide +kernel
theorem dX5_readGive_96 : decode cX5_readGive 96 = .ok (.baload, 1) := by decide +kernel
theorem dX5_readGive_97 : decode cX5_readGive 97 = .ok (.bastore, 1) := by decide +kernel
theorem dX5_readGive_98 : decode cX5_readGive 98 = .ok (.return_, 1) := by decide +kernel
theorem dX5_readUse_0 : decode cX5_readUse 0 = .ok (.aload_n 0, 1) := by decide +kernel
theorem dX5_readUse_1 : decode cX5_readUse 1 = .ok (.iload_n 1, 1) := by decide +kernel
theorem dX5_readUse_2 : decode cX5_readUse 2 = .ok (.invokevirtual 69, 3) := by decide +kernel
theorem dX5_readUse_5 : decode cX5_readUse 5 = .ok (.istore_n 3, 1) := by decide +kernel
theorem dX5_readUse_6 : decode cX5_readUse 6 = .ok (.iload_n 3, 1) := by decide +kernel
theorem dX5_readUse_7 : decode cX5_readUse 7 = .ok (.iconst (-1), 1) := by decide +kernel
theorem dX5_readUse_8 : decode cX5_readUse 8 = .ok (.if_icmp .eq 10, 3) := by decide +kernel
theorem dX5_readUse_11 : decode cX5_readUse 11 = .ok (.aload_n 0, 1) := by decide +kernel
theorem dX5_readUse_12 : decode cX5_readUse 12 = .ok (.getfield 18, 3) := by decide +kernel
theorem dX5_readUse_15 : decode cX5_readUse 15 = .ok (.iload_n 3, 1) := by decide +kernel
theorem dX5_readUse_16 : decode cX5_readUse 16 = .ok (.iload_n 2, 1) := by decide +kernel
theorem dX5_readUse_17 : decode cX5_readUse 17 = .ok (.iastore, 1) := by decide +kernel
theorem dX5_readUse_18 : decode cX5_readUse 18 = .ok (.return_, 1) := by decide +kernel
theorem dX6_init_0 : decode cX6_init 0 = .ok (.aload_n 0, 1) := by decide +kernel
theorem dX6_init_1 : decode cX6_init 1 = .ok (.invokespecial 1, 3) := by decide +kernel
theorem dX6_init_4 : decode cX6_init 4 = .ok (.aload_n 0, 1) := by decide +kernel
theorem dX6_init_5 : decode cX6_init 5 = .ok (.new 7, 3) := by decide +kernel
theorem dX6_init_8 : decode cX6_init 8 = .ok (.dup, 1) := by decide +kernel
theorem dX6_init_9 : decode cX6_init 9 = .ok (.invokespecial 9, 3) := by decide +kernel
theorem dX6_init_12 : decode cX6_init 12 = .ok (.putfield 10, 3) := by decide +kernel
theorem dX6_init_15 : decode cX6_init 15 = .ok (.aload_n 0, 1) := by decide +kernel
theorem dX6_init_16 : decode cX6_init 16 = .ok (.new 16, 3) := by decide +kernel
theorem dX6_init_19 : decode cX6_init 19 = .ok (.dup, 1) := by decide +kernel
theorem dX6_init_20 : decode cX6_init 20 = .ok (.invokespecial 18, 3) := by decide +kernel
theorem dX6_init_23 : decode cX6_init 23 = .ok (.putfield 19, 3) := by decide +kernel
theorem dX6_init_26 : decode cX6_init 26 = .ok (.aload_n 0, 1) := by decide +kernel
theorem dX6_init_27 : decode cX6_init 27 = .ok (.bipush 120, 2) := by decide +kernel
theorem dX6_init_29 : decode cX6_init 29 = .ok (.anewarray 23, 3) := by decide +kernel
theorem dX6_init_32 : decode cX6_init 32 = .ok (.putfield 25, 3) := by decide +kernel
theorem dX6_init_35 : decode cX6_init 35 = .ok (.aload_n 0, 1) := by decide +kernel
theorem dX6_init_36 : decode cX6_init 36 = .ok (.new 29, 3) := by decide +kernel
theorem dX6_init_39 : decode cX6_init 39 = .ok (.dup, 1) := by decide +kernel
