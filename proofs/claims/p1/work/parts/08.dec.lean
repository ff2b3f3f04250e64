theorem dX2_init_0 : decode cX2_init 0 = .ok (.aload_n 0, 1) := by decide +kernel
theorem dX2_init_1 : decode cX2_init 1 = .ok (.invokespecial 3, 3) := by decide +kernel
theorem dX2_init_4 : decode cX2_init 4 = .ok (.aload_n 0, 1) := by decide +kernel
theorem dX2_init_5 : decode cX2_init 5 = .ok (.sipush 512, 3) := by decide +kernel
theorem dX2_init_8 : decode cX2_init 8 = .ok (.newarray .long, 2) := by decide +kernel
theorem dX2_init_10 : decode cX2_init 10 = .ok (.putfield 9, 3) := by decide +kernel
theorem dX2_init_13 : decode cX2_init 13 = .ok (.aload_n 0, 1) := by decide +kernel
theorem dX2_init_14 : decode cX2_init 14 = .ok (.bipush 16, 2) := by decide +kernel
theorem dX2_init_16 : decode cX2_init 16 = .ok (.newarray .int, 2) := by decide +kernel
theorem dX2_init_18 : decode cX2_init 18 = .ok (.putfield 15, 3) := by decide +kernel
theorem dX2_init_21 : decode cX2_init 21 = .ok (.aload_n 0, 1) := by decide +kernel
theorem dX2_init_22 : decode cX2_init 22 = .ok (.aload_n 1, 1) := by decide +kernel
theorem dX2_init_23 : decode cX2_init 23 = .ok (.putfield 19, 3) := by decide +kernel
theorem dX2_init_26 : decode cX2_init 26 = .ok (.aload_n 0, 1) := by decide +kernel
theorem dX2_init_27 : decode cX2_init 27 = .ok (.aload_n 2, 1) := by decide +kernel
theorem dX2_init_28 : decode cX2_init 28 = .ok (.putfield 23, 3) := by decide +kernel
theorem dX2_init_31 : decode cX2_init 31 = .ok (.aload_n 0, 1) := by decide +kernel
theorem dX2_init_32 : decode cX2_init 32 = .ok (.getfield 15, 3) := by decide +kernel
theorem dX2_init_35 : decode cX2_init 35 = .ok (.iconst (-1), 1) := by decide +kernel
theorem dX2_init_36 : decode cX2_init 36 = .ok (.invokestatic 27, 3) := by decide +kernel
theorem dX2_init_39 : decode cX2_init 39 = .ok (.return_, 1) := by decide +kernel
theorem dX2_forgetAll_0 : decode cX2_forgetAll 0 = .ok (.aload_n 0, 1) := by decide +kernel
theorem dX2_forgetAll_1 : decode cX2_forgetAll 1 = .ok (.getfield 15, 3) := by decide +kernel
theorem dX2_forgetAll_4 : decode cX2_forgetAll 4 = .ok (.iconst (-1), 1) := by decide +kernel
theorem dX2_forgetAll_5 : decode cX2_forgetAll 5 = .ok (.invokestatic 27, 3) := by decide +kernel
theorem dX2_forgetAll_8 : decode cX2_forgetAll 8 = .ok (.return_, 1) := by decide +kernel
theorem dX3_init_0 : decode cX3_init 0 = .ok (.aload_n 0, 1) := by decide +kernel
theorem dX3_init_1 : decode cX3_init 1 = .ok (.invokespecial 3, 3) := by decide +kernel
theorem dX3_init_4 : decode cX3_init 4 = .ok (.aload_n 0, 1) := by decide +kernel
theorem dX3_init_5 : decode cX3_init 5 = .ok (.bipush 24, 2) := by decide +kernel
theorem dX3_init_7 : decode cX3_init 7 = .ok (.newarray .int, 2) := by decide +kernel
theorem dX3_init_9 : decode cX3_init 9 = .ok (.putfield 9, 3) := by decide +kernel
theorem dX3_init_12 : decode cX3_init 12 = .ok (.aload_n 0, 1) := by decide +kernel
theorem dX3_init_13 : decode cX3_init 13 = .ok (.bipush 24, 2) := by decide +kernel
theorem dX3_init_15 : decode cX3_init 15 = .ok (.newarray .int, 2) := by decide +kernel
theorem dX3_init_17 : decode cX3_init 17 = .ok (.putfield 15, 3) := by decide +kernel
theorem dX3_init_20 : decode cX3_init 20 = .ok (.aload_n 0, 1) := by decide +kernel
theorem dX3_init_21 : decode cX3_init 21 = .ok (.iconst 4, 1) := by decide +kernel
theorem dX3_init_22 : decode cX3_init 22 = .ok (.newarray .int, 2) := by decide +kernel
theorem dX3_init_24 : decode cX3_init 24 = .ok (.putfield 18, 3) := by decide +kernel
theorem dX3_init_27 : decode cX3_init 27 = .ok (.aload_n 0, 1) := by decide +kernel
theorem dX3_init_28 : decode cX3_init 28 = .ok (.iconst 0, 1) := by decide +kernel
theorem dX3_init_29 : decode cX3_init 29 = .ok (.putfield 21, 3) := by decide +kernel
theorem dX3_init_32 : decode cX3_init 32 = .ok (.aload_n 0, 1) := by decide +kernel
theorem dX3_init_33 : decode cX3_init 33 = .ok (.iconst 0, 1) := by decide +kernel
theorem dX3_init_34 : decode cX3_init 34 = .ok (.putfield 25, 3) := by decide +kernel
theorem dX3_init_37 : decode cX3_init 37 = .ok (.aload_n 0, 1) := by decide +kernel
theorem dX3_init_38 : decode cX3_init 38 = .ok (.iconst 0, 1) := by decide +kernel
theorem dX3_init_39 : decode cX3_init 39 = .ok (.putfield 28, 3) := by decide +kernel
theorem dX3_init_42 : decode cX3_init 42 = .ok (.aload_n 0, 1) := by decide +kernel
theorem dX3_init_43 : decode cX3_init 43 = .ok (.iconst 0, 1) := by decide +kernel
theorem dX3_init_44 : decode cX3_init 44 = .ok (.putfield 31, 3) := by decide +kernel
theorem dX3_init_47 : decode cX3_init 47 = .ok (.aload_n 0, 1) := by decide +kernel
theorem dX3_init_48 : decode cX3_init 48 = .ok (.iconst 0, 1) := by decide +kernel
theorem dX3_init_49 : decode cX3_init 49 = .ok (.putfield 34, 3) := by decide +kernel
theorem dX3_init_52 : decode cX3_init 52 = .ok (.aload_n 0, 1) := by decide +kernel
theorem dX3_init_53 : decode cX3_init 53 = .ok (.iconst 0, 1) := by decide +kernel
theorem dX3_init_54 : decode cX3_init 54 = .ok (.putfield 37, 3) := by decide +kernel
theorem dX3_init_57 : decode cX3_init 57 = .ok (.aload_n 0, 1) := by decide +kernel
theorem dX3_init_58 : decode cX3_init 58 = .ok (.aconst_null, 1) := by decide +kernel
theorem dX3_init_59 : decode cX3_init 59 = .ok (.putfield 40, 3) := by decide +kernel
theorem dX3_init_62 : decode cX3_init 62 = .ok (.aload_n 0, 1) := by decide +kernel
theorem dX3_init_63 : decode cX3_init 63 = .ok (.aload_n 1, 1) := by decide +kernel
theorem dX3_init_64 : decode cX3_init 64 = .ok (.putfield 44, 3) := by decide +kernel
theorem dX3_init_67 : decode cX3_init 67 = .ok (.aload_n 0, 1) := by decide +kernel
theorem dX3_init_68 : decode cX3_init 68 = .ok (.aload_n 2, 1) := by decide +kernel
theorem dX3_init_69 : decode cX3_init 69 = .ok (.putfield 48, 3) := by decide +kernel
theorem dX3_init_72 : decode cX3_init 72 = .ok (.return_, 1) := by decide +kernel
theorem dX4_init_0 : decode cX4_init 0 = .ok (.aload_n 0, 1) := by decide +kernel
theorem dX4_init_1 : decode cX4_init 1 = .ok (.invokespecial 3, 3) := by decide +kernel
theorem dX4_init_4 : decode cX4_init 4 = .ok (.aload_n 0, 1) := by decide +kernel
theorem dX4_init_5 : decode cX4_init 5 = .ok (.iconst 0, 1) := by decide +kernel
theorem dX4_init_6 : decode cX4_init 6 = .ok (.putfield 9, 3) := by decide +kernel
theorem dX4_init_9 : decode cX4_init 9 = .ok (.aload_n 0, 1) := by decide +kernel
theorem dX4_init_10 : decode cX4_init 10 = .ok (.iconst 0, 1) := by decide +kernel
theorem dX4_init_11 : decode cX4_init 11 = .ok (.putfield 15, 3) := by decide +kernel
theorem dX4_init_14 : decode cX4_init 14 = .ok (.aload_n 0, 1) := by decide +kernel
theorem dX4_init_15 : decode cX4_init 15 = .ok (.bipush 6, 2) := by decide +kernel
theorem dX4_init_17 : decode cX4_init 17 = .ok (.newarray .int, 2) := by decide +kernel
theorem dX4_init_19 : decode cX4_init 19 = .ok (.putfield 19, 3) := by decide +kernel
theorem dX4_init_22 : decode cX4_init 22 = .ok (.aload_n 0, 1) := by decide +kernel
theorem dX4_init_23 : decode cX4_init 23 = .ok (.bipush 6, 2) := by decide +kernel
theorem dX4_init_25 : decode cX4_init 25 = .ok (.newarray .int, 2) := by decide +kernel
theorem dX4_init_27 : decode cX4_init 27 = .ok (.putfield 23, 3) := by decide +kernel
theorem dX4_init_30 : decode cX4_init 30 = .ok (.aload_n 0, 1) := by decide +kernel
theorem dX4_init_31 : decode cX4_init 31 = .ok (.iconst 5, 1) := by decide +kernel
theorem dX4_init_32 : decode cX4_init 32 = .ok (.newarray .int, 2) := by decide +kernel
theorem dX4_init_34 : decode cX4_init 34 = .ok (.putfield 26, 3) := by decide +kernel
theorem dX4_init_37 : decode cX4_init 37 = .ok (.aload_n 0, 1) := by decide +kernel
theorem dX4_init_38 : decode cX4_init 38 = .ok (.iconst 5, 1) := by decide +kernel
theorem dX4_init_39 : decode cX4_init 39 = .ok (.newarray .int, 2) := by decide +kernel
theorem dX4_init_41 : decode cX4_init 41 = .ok (.putfield 29, 3) := by decide +kernel
theorem dX4_init_44 : decode cX4_init 44 = .ok (.aload_n 0, 1) := by decide +kernel
theorem dX4_init_45 : decode cX4_init 45 = .ok (.bipush 24, 2) := by decide +kernel
theorem dX4_init_47 : decode cX4_init 47 = .ok (.newarray .int, 2) := by decide +kernel
theorem dX4_init_49 : decode cX4_init 49 = .ok (.putfield 32, 3) := by decide +kernel
theorem dX4_init_52 : decode cX4_init 52 = .ok (.aload_n 0, 1) := by decide +kernel
theorem dX4_init_53 : decode cX4_init 53 = .ok (.getfield 26, 3) := by decide +kernel
theorem dX4_init_56 : decode cX4_init 56 = .ok (.iconst 1, 1) := by decide +kernel
theorem dX4_init_57 : decode cX4_init 57 = .ok (.invokestatic 35, 3) := by decide +kernel
theorem dX4_init_60 : decode cX4_init 60 = .ok (.aload_n 0, 1) := by decide +kernel
theorem dX4_init_61 : decode cX4_init 61 = .ok (.getfield 29, 3) := by decide +kernel
theorem dX4_init_64 : decode cX4_init 64 = .ok (.iconst 1, 1) := by decide +kernel
theorem dX4_init_65 : decode cX4_init 65 = .ok (.invokestatic 35, 3) := by decide +kernel
theorem dX4_init_68 : decode cX4_init 68 = .ok (.return_, 1) := by decide +kernel
theorem dX4_hasCourse_0 : decode cX4_hasCourse 0 = .ok (.iload_n 1, 1) := by decide +kernel
theorem dX4_hasCourse_1 : decode cX4_hasCourse 1 = .ok (.ifCond .lt 15, 3) := by decide +kernel
theorem dX4_hasCourse_4 : decode cX4_hasCourse 4 = .ok (.iload_n 1, 1) := by decide +kernel
theorem dX4_hasCourse_5 : decode cX4_hasCourse 5 = .ok (.aload_n 0, 1) := by decide +kernel
theorem dX4_hasCourse_6 : decode cX4_hasCourse 6 = .ok (.getfield 9, 3) := by decide +kernel
theorem dX4_hasCourse_9 : decode cX4_hasCourse 9 = .ok (.if_icmp .ge 7, 3) := by decide +kernel
theorem dX4_hasCourse_16 : decode cX4_hasCourse 16 = .ok (.iconst 0, 1) := by decide +kernel
theorem dX4_hasCourse_17 : decode cX4_hasCourse 17 = .ok (.ireturn, 1) := by decide +kernel
theorem dX4_addCourse_0 : decode cX4_addCourse 0 = .ok (.aload_n 0, 1) := by decide +kernel
theorem dX4_addCourse_1 : decode cX4_addCourse 1 = .ok (.getfield 9, 3) := by decide +kernel
theorem dX4_addCourse_4 : decode cX4_addCourse 4 = .ok (.istore_n 3, 1) := by decide +kernel
theorem dX4_addCourse_5 : decode cX4_addCourse 5 = .ok (.aload_n 0, 1) := by decide +kernel
theorem dX4_addCourse_6 : decode cX4_addCourse 6 = .ok (.getfield 19, 3) := by decide +kernel
theorem dX4_addCourse_9 : decode cX4_addCourse 9 = .ok (.iload_n 3, 1) := by decide +kernel
theorem dX4_addCourse_10 : decode cX4_addCourse 10 = .ok (.iload_n 1, 1) := by decide +kernel
theorem dX4_addCourse_11 : decode cX4_addCourse 11 = .ok (.iastore, 1) := by decide +kernel
theorem dX4_addCourse_12 : decode cX4_addCourse 12 = .ok (.aload_n 0, 1) := by decide +kernel
theorem dX4_addCourse_13 : decode cX4_addCourse 13 = .ok (.getfield 23, 3) := by decide +kernel
theorem dX4_addCourse_16 : decode cX4_addCourse 16 = .ok (.iload_n 3, 1) := by decide +kernel
theorem dX4_addCourse_17 : decode cX4_addCourse 17 = .ok (.iload_n 2, 1) := by decide +kernel
theorem dX4_addCourse_18 : decode cX4_addCourse 18 = .ok (.iastore, 1) := by decide +kernel
theorem dX4_addCourse_19 : decode cX4_addCourse 19 = .ok (.iconst 0, 1) := by decide +kernel
theorem dX4_addCourse_20 : decode cX4_addCourse 20 = .ok (.istore 4, 2) := by decide +kernel
theorem dX4_addCourse_22 : decode cX4_addCourse 22 = .ok (.iload 4, 2) := by decide +kernel
theorem dX4_addCourse_24 : decode cX4_addCourse 24 = .ok (.iconst 4, 1) := by decide +kernel
theorem dX4_addCourse_25 : decode cX4_addCourse 25 = .ok (.if_icmp .ge 22, 3) := by decide +kernel
theorem dX4_addCourse_28 : decode cX4_addCourse 28 = .ok (.aload_n 0, 1) := by decide +kernel
theorem dX4_addCourse_29 : decode cX4_addCourse 29 = .ok (.getfield 32, 3) := by decide +kernel
theorem dX4_addCourse_32 : decode cX4_addCourse 32 = .ok (.iload 4, 2) := by decide +kernel
theorem dX4_addCourse_34 : decode cX4_addCourse 34 = .ok (.bipush 6, 2) := by decide +kernel
theorem dX4_addCourse_36 : decode cX4_addCourse 36 = .ok (.imul, 1) := by decide +kernel
theorem dX4_addCourse_37 : decode cX4_addCourse 37 = .ok (.iload_n 3, 1) := by decide +kernel
theorem dX4_addCourse_38 : decode cX4_addCourse 38 = .ok (.iadd, 1) := by decide +kernel
theorem dX4_addCourse_39 : decode cX4_addCourse 39 = .ok (.iload_n 1, 1) := by decide +kernel
theorem dX4_addCourse_40 : decode cX4_addCourse 40 = .ok (.iastore, 1) := by decide +kernel
theorem dX4_addCourse_41 : decode cX4_addCourse 41 = .ok (.iinc 4 1, 3) := by decide +kernel
theorem dX4_addCourse_44 : decode cX4_addCourse 44 = .ok (.goto (-22), 3) := by decide +kernel
theorem dX4_addCourse_47 : decode cX4_addCourse 47 = .ok (.aload_n 0, 1) := by decide +kernel
theorem dX4_addCourse_48 : decode cX4_addCourse 48 = .ok (.dup, 1) := by decide +kernel
theorem dX4_addCourse_49 : decode cX4_addCourse 49 = .ok (.getfield 9, 3) := by decide +kernel
theorem dX4_addCourse_52 : decode cX4_addCourse 52 = .ok (.iconst 1, 1) := by decide +kernel
theorem dX4_addCourse_53 : decode cX4_addCourse 53 = .ok (.iadd, 1) := by decide +kernel
theorem dX4_addCourse_54 : decode cX4_addCourse 54 = .ok (.putfield 9, 3) := by decide +kernel
theorem dX4_addCourse_57 : decode cX4_addCourse 57 = .ok (.iload_n 3, 1) := by decide +kernel
theorem dX4_addCourse_58 : decode cX4_addCourse 58 = .ok (.ireturn, 1) := by decide +kernel
theorem dX5_init_0 : decode cX5_init 0 = .ok (.aload_n 0, 1) := by decide +kernel
theorem dX5_init_1 : decode cX5_init 1 = .ok (.invokespecial 3, 3) := by decide +kernel
theorem dX5_init_4 : decode cX5_init 4 = .ok (.aload_n 0, 1) := by decide +kernel
theorem dX5_init_5 : decode cX5_init 5 = .ok (.iconst 0, 1) := by decide +kernel
theorem dX5_init_6 : decode cX5_init 6 = .ok (.putfield 9, 3) := by decide +kernel
theorem dX5_init_9 : decode cX5_init 9 = .ok (.aload_n 0, 1) := by decide +kernel
theorem dX5_init_10 : decode cX5_init 10 = .ok (.bipush 17, 2) := by decide +kernel
theorem dX5_init_12 : decode cX5_init 12 = .ok (.newarray .int, 2) := by decide +kernel
theorem dX5_init_14 : decode cX5_init 14 = .ok (.putfield 15, 3) := by decide +kernel
theorem dX5_init_17 : decode cX5_init 17 = .ok (.aload_n 0, 1) := by decide +kernel
theorem dX5_init_18 : decode cX5_init 18 = .ok (.bipush 68, 2) := by decide +kernel
theorem dX5_init_20 : decode cX5_init 20 = .ok (.newarray .int, 2) := by decide +kernel
theorem dX5_init_22 : decode cX5_init 22 = .ok (.putfield 19, 3) := by decide +kernel
theorem dX5_init_25 : decode cX5_init 25 = .ok (.aload_n 0, 1) := by decide +kernel
theorem dX5_init_26 : decode cX5_init 26 = .ok (.bipush 68, 2) := by decide +kernel
theorem dX5_init_28 : decode cX5_init 28 = .ok (.newarray .int, 2) := by decide +kernel
theorem dX5_init_30 : decode cX5_init 30 = .ok (.putfield 22, 3) := by decide +kernel
theorem dX5_init_33 : decode cX5_init 33 = .ok (.aload_n 0, 1) := by decide +kernel
theorem dX5_init_34 : decode cX5_init 34 = .ok (.bipush 68, 2) := by decide +kernel
theorem dX5_init_36 : decode cX5_init 36 = .ok (.newarray .int, 2) := by decide +kernel
theorem dX5_init_38 : decode cX5_init 38 = .ok (.putfield 25, 3) := by decide +kernel
theorem dX5_init_41 : decode cX5_init 41 = .ok (.aload_n 0, 1) := by decide +kernel
theorem dX5_init_42 : decode cX5_init 42 = .ok (.bipush 68, 2) := by decide +kernel
theorem dX5_init_44 : decode cX5_init 44 = .ok (.newarray .int, 2) := by decide +kernel
theorem dX5_init_46 : decode cX5_init 46 = .ok (.putfield 28, 3) := by decide +kernel
theorem dX5_init_49 : decode cX5_init 49 = .ok (.aload_n 0, 1) := by decide +kernel
theorem dX5_init_50 : decode cX5_init 50 = .ok (.bipush 68, 2) := by decide +kernel
theorem dX5_init_52 : decode cX5_init 52 = .ok (.newarray .int, 2) := by decide +kernel
theorem dX5_init_54 : decode cX5_init 54 = .ok (.putfield 31, 3) := by decide +kernel
theorem dX5_init_57 : decode cX5_init 57 = .ok (.return_, 1) := by decide +kernel
theorem dX5_isTied_0 : decode cX5_isTied 0 = .ok (.iload_n 0, 1) := by decide +kernel
theorem dX5_isTied_1 : decode cX5_isTied 1 = .ok (.iconst 1, 1) := by decide +kernel
theorem dX5_isTied_2 : decode cX5_isTied 2 = .ok (.if_icmp .eq 8, 3) := by decide +kernel
theorem dX5_isTied_5 : decode cX5_isTied 5 = .ok (.iload_n 0, 1) := by decide +kernel
theorem dX5_isTied_6 : decode cX5_isTied 6 = .ok (.iconst 2, 1) := by decide +kernel
theorem dX5_isTied_7 : decode cX5_isTied 7 = .ok (.if_icmp .ne 7, 3) := by decide +kernel
theorem dX5_isTied_10 : decode cX5_isTied 10 = .ok (.iconst 1, 1) := by decide +kernel
theorem dX5_isTied_11 : decode cX5_isTied 11 = .ok (.goto 4, 3) := by decide +kernel
theorem dX5_isTied_14 : decode cX5_isTied 14 = .ok (.iconst 0, 1) := by decide +kernel
theorem dX5_isTied_15 : decode cX5_isTied 15 = .ok (.ireturn, 1) := by decide +kernel
theorem dX5_hasTick_0 : decode cX5_hasTick 0 = .ok (.iload_n 1, 1) := by decide +kernel
theorem dX5_hasTick_1 : decode cX5_hasTick 1 = .ok (.ifCond .lt 15, 3) := by decide +kernel
theorem dX5_hasTick_4 : decode cX5_hasTick 4 = .ok (.iload_n 1, 1) := by decide +kernel
theorem dX5_hasTick_5 : decode cX5_hasTick 5 = .ok (.aload_n 0, 1) := by decide +kernel
theorem dX5_hasTick_6 : decode cX5_hasTick 6 = .ok (.getfield 9, 3) := by decide +kernel
theorem dX5_hasTick_9 : decode cX5_hasTick 9 = .ok (.if_icmp .ge 7, 3) := by decide +kernel
theorem dX5_hasTick_16 : decode cX5_hasTick 16 = .ok (.iconst 0, 1) := by decide +kernel
theorem dX5_hasTick_17 : decode cX5_hasTick 17 = .ok (.ireturn, 1) := by decide +kernel
theorem dX5_hasNote_0 : decode cX5_hasNote 0 = .ok (.aload_n 0, 1) := by decide +kernel
theorem dX5_hasNote_1 : decode cX5_hasNote 1 = .ok (.iload_n 1, 1) := by decide +kernel
theorem dX5_hasNote_2 : decode cX5_hasNote 2 = .ok (.invokevirtual 34, 3) := by decide +kernel
theorem dX5_hasNote_5 : decode cX5_hasNote 5 = .ok (.ifCond .eq 21, 3) := by decide +kernel
theorem dX5_hasNote_26 : decode cX5_hasNote 26 = .ok (.iconst 0, 1) := by decide +kernel
theorem dX5_hasNote_27 : decode cX5_hasNote 27 = .ok (.ireturn, 1) := by decide +kernel
theorem dX5_notesOfTicks_0 : decode cX5_notesOfTicks 0 = .ok (.iconst 0, 1) := by decide +kernel
theorem dX5_notesOfTicks_1 : decode cX5_notesOfTicks 1 = .ok (.istore_n 1, 1) := by decide +kernel
theorem dX5_notesOfTicks_2 : decode cX5_notesOfTicks 2 = .ok (.iconst 0, 1) := by decide +kernel
theorem dX5_notesOfTicks_3 : decode cX5_notesOfTicks 3 = .ok (.istore_n 2, 1) := by decide +kernel
theorem dX5_notesOfTicks_4 : decode cX5_notesOfTicks 4 = .ok (.iload_n 2, 1) := by decide +kernel
theorem dX5_notesOfTicks_5 : decode cX5_notesOfTicks 5 = .ok (.aload_n 0, 1) := by decide +kernel
theorem dX5_notesOfTicks_6 : decode cX5_notesOfTicks 6 = .ok (.getfield 9, 3) := by decide +kernel
theorem dX5_notesOfTicks_9 : decode cX5_notesOfTicks 9 = .ok (.if_icmp .ge 18, 3) := by decide +kernel
theorem dX5_notesOfTicks_27 : decode cX5_notesOfTicks 27 = .ok (.iload_n 1, 1) := by decide +kernel
theorem dX5_notesOfTicks_28 : decode cX5_notesOfTicks 28 = .ok (.ireturn, 1) := by decide +kernel
theorem dX5_noteOfPitch_0 : decode cX5_noteOfPitch 0 = .ok (.iconst 0, 1) := by decide +kernel
theorem dX5_noteOfPitch_1 : decode cX5_noteOfPitch 1 = .ok (.istore_n 3, 1) := by decide +kernel
theorem dX5_noteOfPitch_2 : decode cX5_noteOfPitch 2 = .ok (.iload_n 3, 1) := by decide +kernel
theorem dX5_noteOfPitch_3 : decode cX5_noteOfPitch 3 = .ok (.aload_n 0, 1) := by decide +kernel
theorem dX5_noteOfPitch_4 : decode cX5_noteOfPitch 4 = .ok (.getfield 15, 3) := by decide +kernel
theorem dX5_noteOfPitch_7 : decode cX5_noteOfPitch 7 = .ok (.iload_n 1, 1) := by decide +kernel
theorem dX5_noteOfPitch_8 : decode cX5_noteOfPitch 8 = .ok (.iaload, 1) := by decide +kernel
theorem dX5_noteOfPitch_9 : decode cX5_noteOfPitch 9 = .ok (.if_icmp .ge 25, 3) := by decide +kernel
theorem dX5_noteOfPitch_34 : decode cX5_noteOfPitch 34 = .ok (.iconst (-1), 1) := by decide +kernel
theorem dX5_noteOfPitch_35 : decode cX5_noteOfPitch 35 = .ok (.ireturn, 1) := by decide +kernel
theorem dX5_foreOf_0 : decode cX5_foreOf 0 = .ok (.iload_n 2, 1) := by decide +kernel
theorem dX5_foreOf_1 : decode cX5_foreOf 1 = .ok (.invokestatic 38, 3) := by decide +kernel
theorem dX5_foreOf_4 : decode cX5_foreOf 4 = .ok (.ifCond .eq 10, 3) := by decide +kernel
theorem dX5_foreOf_7 : decode cX5_foreOf 7 = .ok (.aload_n 0, 1) := by decide +kernel
theorem dX5_foreOf_8 : decode cX5_foreOf 8 = .ok (.getfield 9, 3) := by decide +kernel
theorem dX5_foreOf_11 : decode cX5_foreOf 11 = .ok (.ifCond .ne 5, 3) := by decide +kernel
theorem dX5_foreOf_14 : decode cX5_foreOf 14 = .ok (.iconst (-1), 1) := by decide +kernel
theorem dX5_foreOf_15 : decode cX5_foreOf 15 = .ok (.ireturn, 1) := by decide +kernel
theorem dX5_addNote_0 : decode cX5_addNote 0 = .ok (.aload_n 0, 1) := by decide +kernel
theorem dX5_addNote_1 : decode cX5_addNote 1 = .ok (.getfield 15, 3) := by decide +kernel
theorem dX5_addNote_4 : decode cX5_addNote 4 = .ok (.aload_n 0, 1) := by decide +kernel
theorem dX5_addNote_5 : decode cX5_addNote 5 = .ok (.getfield 9, 3) := by decide +kernel
theorem dX5_addNote_8 : decode cX5_addNote 8 = .ok (.iaload, 1) := by decide +kernel
theorem dX5_addNote_9 : decode cX5_addNote 9 = .ok (.istore 6, 2) := by decide +kernel
theorem dX5_addNote_11 : decode cX5_addNote 11 = .ok (.aload_n 0, 1) := by decide +kernel
theorem dX5_addNote_12 : decode cX5_addNote 12 = .ok (.getfield 9, 3) := by decide +kernel
theorem dX5_addNote_15 : decode cX5_addNote 15 = .ok (.iconst 4, 1) := by decide +kernel
theorem dX5_addNote_16 : decode cX5_addNote 16 = .ok (.imul, 1) := by decide +kernel
theorem dX5_addNote_17 : decode cX5_addNote 17 = .ok (.iload 6, 2) := by decide +kernel
theorem dX5_addNote_19 : decode cX5_addNote 19 = .ok (.iadd, 1) := by decide +kernel
theorem dX5_addNote_20 : decode cX5_addNote 20 = .ok (.istore 7, 2) := by decide +kernel
theorem dX5_addNote_22 : decode cX5_addNote 22 = .ok (.aload_n 0, 1) := by decide +kernel
theorem dX5_addNote_23 : decode cX5_addNote 23 = .ok (.getfield 19, 3) := by decide +kernel
theorem dX5_addNote_26 : decode cX5_addNote 26 = .ok (.iload 7, 2) := by decide +kernel
theorem dX5_addNote_28 : decode cX5_addNote 28 = .ok (.iload_n 1, 1) := by decide +kernel
theorem dX5_addNote_29 : decode cX5_addNote 29 = .ok (.iastore, 1) := by decide +kernel
theorem dX5_addNote_30 : decode cX5_addNote 30 = .ok (.aload_n 0, 1) := by decide +kernel
theorem dX5_addNote_31 : decode cX5_addNote 31 = .ok (.getfield 22, 3) := by decide +kernel
theorem dX5_addNote_34 : decode cX5_addNote 34 = .ok (.iload 7, 2) := by decide +kernel
theorem dX5_addNote_36 : decode cX5_addNote 36 = .ok (.iload_n 2, 1) := by decide +kernel
theorem dX5_addNote_37 : decode cX5_addNote 37 = .ok (.iastore, 1) := by decide +kernel
theorem dX5_addNote_38 : decode cX5_addNote 38 = .ok (.aload_n 0, 1) := by decide +kernel
theorem dX5_addNote_39 : decode cX5_addNote 39 = .ok (.getfield 25, 3) := by decide +kernel
theorem dX5_addNote_42 : decode cX5_addNote 42 = .ok (.iload 7, 2) := by decide +kernel
theorem dX5_addNote_44 : decode cX5_addNote 44 = .ok (.iload_n 3, 1) := by decide +kernel
theorem dX5_addNote_45 : decode cX5_addNote 45 = .ok (.iastore, 1) := by decide +kernel
theorem dX5_addNote_46 : decode cX5_addNote 46 = .ok (.aload_n 0, 1) := by decide +kernel
theorem dX5_addNote_47 : decode cX5_addNote 47 = .ok (.getfield 28, 3) := by decide +kernel
theorem dX5_addNote_50 : decode cX5_addNote 50 = .ok (.iload 7, 2) := by decide +kernel
theorem dX5_addNote_52 : decode cX5_addNote 52 = .ok (.iload 4, 2) := by decide +kernel
theorem dX5_addNote_54 : decode cX5_addNote 54 = .ok (.iastore, 1) := by decide +kernel
theorem dX5_addNote_55 : decode cX5_addNote 55 = .ok (.aload_n 0, 1) := by decide +kernel
theorem dX5_addNote_56 : decode cX5_addNote 56 = .ok (.getfield 31, 3) := by decide +kernel
theorem dX5_addNote_59 : decode cX5_addNote 59 = .ok (.iload 7, 2) := by decide +kernel
theorem dX5_addNote_61 : decode cX5_addNote 61 = .ok (.iload 5, 2) := by decide +kernel
theorem dX5_addNote_63 : decode cX5_addNote 63 = .ok (.iastore, 1) := by decide +kernel
theorem dX5_addNote_64 : decode cX5_addNote 64 = .ok (.aload_n 0, 1) := by decide +kernel
theorem dX5_addNote_65 : decode cX5_addNote 65 = .ok (.getfield 15, 3) := by decide +kernel
theorem dX5_addNote_68 : decode cX5_addNote 68 = .ok (.aload_n 0, 1) := by decide +kernel
theorem dX5_addNote_69 : decode cX5_addNote 69 = .ok (.getfield 9, 3) := by decide +kernel
theorem dX5_addNote_72 : decode cX5_addNote 72 = .ok (.iload 6, 2) := by decide +kernel
theorem dX5_addNote_74 : decode cX5_addNote 74 = .ok (.iconst 1, 1) := by decide +kernel
theorem dX5_addNote_75 : decode cX5_addNote 75 = .ok (.iadd, 1) := by decide +kernel
theorem dX5_addNote_76 : decode cX5_addNote 76 = .ok (.iastore, 1) := by decide +kernel
theorem dX5_addNote_77 : decode cX5_addNote 77 = .ok (.iload 6, 2) := by decide +kernel
theorem dX5_addNote_79 : decode cX5_addNote 79 = .ok (.iconst 1, 1) := by decide +kernel
theorem dX5_addNote_80 : decode cX5_addNote 80 = .ok (.iadd, 1) := by decide +kernel
theorem dX5_addNote_81 : decode cX5_addNote 81 = .ok (.ireturn, 1) := by decide +kernel
theorem dX5_removeAll_0 : decode cX5_removeAll 0 = .ok (.aload_n 0, 1) := by decide +kernel
theorem dX5_removeAll_1 : decode cX5_removeAll 1 = .ok (.iconst 0, 1) := by decide +kernel
theorem dX5_removeAll_2 : decode cX5_removeAll 2 = .ok (.putfield 9, 3) := by decide +kernel
theorem dX5_removeAll_5 : decode cX5_removeAll 5 = .ok (.aload_n 0, 1) := by decide +kernel
theorem dX5_removeAll_6 : decode cX5_removeAll 6 = .ok (.getfield 15, 3) := by decide +kernel
theorem dX5_removeAll_9 : decode cX5_removeAll 9 = .ok (.iconst 0, 1) := by decide +kernel
theorem dX5_removeAll_10 : decode cX5_removeAll 10 = .ok (.iconst 0, 1) := by decide +kernel
theorem dX5_removeAll_11 : decode cX5_removeAll 11 = .ok (.iastore, 1) := by decide +kernel
theorem dX5_removeAll_12 : decode cX5_removeAll 12 = .ok (.return_, 1) := by decide +kernel
theorem dX6_init_0 : decode cX6_init 0 = .ok (.aload_n 0, 1) := by decide +kernel
theorem dX6_init_1 : decode cX6_init 1 = .ok (.invokespecial 3, 3) := by decide +kernel
theorem dX6_init_4 : decode cX6_init 4 = .ok (.aload_n 0, 1) := by decide +kernel
theorem dX6_init_5 : decode cX6_init 5 = .ok (.sipush 600, 3) := by decide +kernel
theorem dX6_init_8 : decode cX6_init 8 = .ok (.newarray .int, 2) := by decide +kernel
theorem dX6_init_10 : decode cX6_init 10 = .ok (.putfield 9, 3) := by decide +kernel
theorem dX6_init_13 : decode cX6_init 13 = .ok (.aload_n 0, 1) := by decide +kernel
theorem dX6_init_14 : decode cX6_init 14 = .ok (.iconst 0, 1) := by decide +kernel
theorem dX6_init_15 : decode cX6_init 15 = .ok (.putfield 15, 3) := by decide +kernel
theorem dX6_init_18 : decode cX6_init 18 = .ok (.return_, 1) := by decide +kernel
theorem dX6_append_0 : decode cX6_append 0 = .ok (.aload_n 0, 1) := by decide +kernel
theorem dX6_append_1 : decode cX6_append 1 = .ok (.getfield 15, 3) := by decide +kernel
theorem dX6_append_4 : decode cX6_append 4 = .ok (.sipush 600, 3) := by decide +kernel
theorem dX6_append_7 : decode cX6_append 7 = .ok (.if_icmp .lt 4, 3) := by decide +kernel
theorem dX6_append_11 : decode cX6_append 11 = .ok (.aload_n 0, 1) := by decide +kernel
theorem dX6_append_12 : decode cX6_append 12 = .ok (.getfield 9, 3) := by decide +kernel
theorem dX6_append_15 : decode cX6_append 15 = .ok (.aload_n 0, 1) := by decide +kernel
theorem dX6_append_16 : decode cX6_append 16 = .ok (.getfield 15, 3) := by decide +kernel
theorem dX6_append_19 : decode cX6_append 19 = .ok (.iload_n 1, 1) := by decide +kernel
theorem dX6_append_20 : decode cX6_append 20 = .ok (.iastore, 1) := by decide +kernel
theorem dX6_append_21 : decode cX6_append 21 = .ok (.aload_n 0, 1) := by decide +kernel
theorem dX6_append_22 : decode cX6_append 22 = .ok (.dup, 1) := by decide +kernel
theorem dX6_append_23 : decode cX6_append 23 = .ok (.getfield 15, 3) := by decide +kernel
theorem dX6_append_26 : decode cX6_append 26 = .ok (.iconst 1, 1) := by decide +kernel
theorem dX6_append_27 : decode cX6_append 27 = .ok (.iadd, 1) := by decide +kernel
theorem dX6_append_28 : decode cX6_append 28 = .ok (.putfield 15, 3) := by decide +kernel
theorem dX6_append_31 : decode cX6_append 31 = .ok (.return_, 1) := by decide +kernel
theorem dX8_init_0 : decode cX8_init 0 = .ok (.aload_n 0, 1) := by decide +kernel
theorem dX8_init_1 : decode cX8_init 1 = .ok (.invokespecial 3, 3) := by decide +kernel
theorem dX8_init_4 : decode cX8_init 4 = .ok (.aload_n 0, 1) := by decide +kernel
theorem dX8_init_5 : decode cX8_init 5 = .ok (.sipush 128, 3) := by decide +kernel
theorem dX8_init_8 : decode cX8_init 8 = .ok (.newarray .int, 2) := by decide +kernel
theorem dX8_init_10 : decode cX8_init 10 = .ok (.putfield 9, 3) := by decide +kernel
theorem dX8_init_13 : decode cX8_init 13 = .ok (.aload_n 0, 1) := by decide +kernel
theorem dX8_init_14 : decode cX8_init 14 = .ok (.bipush 8, 2) := by decide +kernel
theorem dX8_init_16 : decode cX8_init 16 = .ok (.newarray .int, 2) := by decide +kernel
theorem dX8_init_18 : decode cX8_init 18 = .ok (.putfield 15, 3) := by decide +kernel
theorem dX8_init_21 : decode cX8_init 21 = .ok (.aload_n 0, 1) := by decide +kernel
theorem dX8_init_22 : decode cX8_init 22 = .ok (.iconst 0, 1) := by decide +kernel
theorem dX8_init_23 : decode cX8_init 23 = .ok (.putfield 18, 3) := by decide +kernel
theorem dX8_init_26 : decode cX8_init 26 = .ok (.aload_n 0, 1) := by decide +kernel
theorem dX8_init_27 : decode cX8_init 27 = .ok (.iconst (-1), 1) := by decide +kernel
theorem dX8_init_28 : decode cX8_init 28 = .ok (.putfield 22, 3) := by decide +kernel
theorem dX8_init_31 : decode cX8_init 31 = .ok (.aload_n 0, 1) := by decide +kernel
theorem dX8_init_32 : decode cX8_init 32 = .ok (.iconst 0, 1) := by decide +kernel
theorem dX8_init_33 : decode cX8_init 33 = .ok (.putfield 25, 3) := by decide +kernel
theorem dX8_init_36 : decode cX8_init 36 = .ok (.return_, 1) := by decide +kernel
theorem dX8_drop_0 : decode cX8_drop 0 = .ok (.aload_n 0, 1) := by decide +kernel
theorem dX8_drop_1 : decode cX8_drop 1 = .ok (.iconst 0, 1) := by decide +kernel
theorem dX8_drop_2 : decode cX8_drop 2 = .ok (.putfield 18, 3) := by decide +kernel
theorem dX8_drop_5 : decode cX8_drop 5 = .ok (.aload_n 0, 1) := by decide +kernel
theorem dX8_drop_6 : decode cX8_drop 6 = .ok (.iconst (-1), 1) := by decide +kernel
theorem dX8_drop_7 : decode cX8_drop 7 = .ok (.putfield 22, 3) := by decide +kernel
theorem dX8_drop_10 : decode cX8_drop 10 = .ok (.aload_n 0, 1) := by decide +kernel
theorem dX8_drop_11 : decode cX8_drop 11 = .ok (.iconst 0, 1) := by decide +kernel
theorem dX8_drop_12 : decode cX8_drop 12 = .ok (.putfield 25, 3) := by decide +kernel
theorem dX8_drop_15 : decode cX8_drop 15 = .ok (.return_, 1) := by decide +kernel
theorem dX8_atHand_0 : decode cX8_atHand 0 = .ok (.aload_n 0, 1) := by decide +kernel
theorem dX8_atHand_1 : decode cX8_atHand 1 = .ok (.getfield 22, 3) := by decide +kernel
theorem dX8_atHand_4 : decode cX8_atHand 4 = .ok (.iconst (-1), 1) := by decide +kernel
theorem dX8_atHand_5 : decode cX8_atHand 5 = .ok (.if_icmp .eq 7, 3) := by decide +kernel
theorem dX8_atHand_12 : decode cX8_atHand 12 = .ok (.iconst 0, 1) := by decide +kernel
theorem dX8_atHand_13 : decode cX8_atHand 13 = .ok (.ireturn, 1) := by decide +kernel
theorem dX9_init_0 : decode cX9_init 0 = .ok (.aload_n 0, 1) := by decide +kernel
theorem dX9_init_1 : decode cX9_init 1 = .ok (.invokespecial 5, 3) := by decide +kernel
theorem dX9_init_4 : decode cX9_init 4 = .ok (.aload_n 0, 1) := by decide +kernel
theorem dX9_init_5 : decode cX9_init 5 = .ok (.aconst_null, 1) := by decide +kernel
theorem dX9_init_6 : decode cX9_init 6 = .ok (.putfield 11, 3) := by decide +kernel
theorem dX9_init_9 : decode cX9_init 9 = .ok (.aload_n 0, 1) := by decide +kernel
theorem dX9_init_10 : decode cX9_init 10 = .ok (.sipush 512, 3) := by decide +kernel
theorem dX9_init_13 : decode cX9_init 13 = .ok (.newarray .int, 2) := by decide +kernel
theorem dX9_init_15 : decode cX9_init 15 = .ok (.putfield 15, 3) := by decide +kernel
theorem dX9_init_18 : decode cX9_init 18 = .ok (.aload_n 0, 1) := by decide +kernel
theorem dX9_init_19 : decode cX9_init 19 = .ok (.bipush 16, 2) := by decide +kernel
theorem dX9_init_21 : decode cX9_init 21 = .ok (.newarray .int, 2) := by decide +kernel
theorem dX9_init_23 : decode cX9_init 23 = .ok (.putfield 19, 3) := by decide +kernel
theorem dX9_init_26 : decode cX9_init 26 = .ok (.aload_n 0, 1) := by decide +kernel
theorem dX9_init_27 : decode cX9_init 27 = .ok (.bipush 16, 2) := by decide +kernel
theorem dX9_init_29 : decode cX9_init 29 = .ok (.newarray .int, 2) := by decide +kernel
theorem dX9_init_31 : decode cX9_init 31 = .ok (.putfield 22, 3) := by decide +kernel
theorem dX9_init_34 : decode cX9_init 34 = .ok (.aload_n 0, 1) := by decide +kernel
theorem dX9_init_35 : decode cX9_init 35 = .ok (.sipush 2385, 3) := by decide +kernel
theorem dX9_init_38 : decode cX9_init 38 = .ok (.newarray .int, 2) := by decide +kernel
theorem dX9_init_40 : decode cX9_init 40 = .ok (.putfield 25, 3) := by decide +kernel
theorem dX9_init_43 : decode cX9_init 43 = .ok (.aload_n 0, 1) := by decide +kernel
theorem dX9_init_44 : decode cX9_init 44 = .ok (.iconst 1, 1) := by decide +kernel
theorem dX9_init_45 : decode cX9_init 45 = .ok (.putfield 28, 3) := by decide +kernel
theorem dX9_init_48 : decode cX9_init 48 = .ok (.aload_n 0, 1) := by decide +kernel
theorem dX9_init_49 : decode cX9_init 49 = .ok (.aload_n 1, 1) := by decide +kernel
theorem dX9_init_50 : decode cX9_init 50 = .ok (.putfield 32, 3) := by decide +kernel
theorem dX9_init_53 : decode cX9_init 53 = .ok (.aload_n 0, 1) := by decide +kernel
theorem dX9_init_54 : decode cX9_init 54 = .ok (.aload_n 2, 1) := by decide +kernel
theorem dX9_init_55 : decode cX9_init 55 = .ok (.putfield 36, 3) := by decide +kernel
theorem dX9_init_58 : decode cX9_init 58 = .ok (.return_, 1) := by decide +kernel
theorem dX10_init_0 : decode cX10_init 0 = .ok (.aload_n 0, 1) := by decide +kernel
theorem dX10_init_1 : decode cX10_init 1 = .ok (.invokespecial 1, 3) := by decide +kernel
theorem dX10_init_4 : decode cX10_init 4 = .ok (.aload_n 0, 1) := by decide +kernel
theorem dX10_init_5 : decode cX10_init 5 = .ok (.new 7, 3) := by decide +kernel
theorem dX10_init_8 : decode cX10_init 8 = .ok (.dup, 1) := by decide +kernel
theorem dX10_init_9 : decode cX10_init 9 = .ok (.invokespecial 9, 3) := by decide +kernel
theorem dX10_init_12 : decode cX10_init 12 = .ok (.putfield 10, 3) := by decide +kernel
theorem dX10_init_15 : decode cX10_init 15 = .ok (.aload_n 0, 1) := by decide +kernel
theorem dX10_init_16 : decode cX10_init 16 = .ok (.new 16, 3) := by decide +kernel
theorem dX10_init_19 : decode cX10_init 19 = .ok (.dup, 1) := by decide +kernel
theorem dX10_init_20 : decode cX10_init 20 = .ok (.invokespecial 18, 3) := by decide +kernel
theorem dX10_init_23 : decode cX10_init 23 = .ok (.putfield 19, 3) := by decide +kernel
theorem dX10_init_26 : decode cX10_init 26 = .ok (.aload_n 0, 1) := by decide +kernel
theorem dX10_init_27 : decode cX10_init 27 = .ok (.new 23, 3) := by decide +kernel
theorem dX10_init_30 : decode cX10_init 30 = .ok (.dup, 1) := by decide +kernel
theorem dX10_init_31 : decode cX10_init 31 = .ok (.invokespecial 25, 3) := by decide +kernel
theorem dX10_init_34 : decode cX10_init 34 = .ok (.putfield 26, 3) := by decide +kernel
theorem dX10_init_37 : decode cX10_init 37 = .ok (.aload_n 0, 1) := by decide +kernel
theorem dX10_init_38 : decode cX10_init 38 = .ok (.new 30, 3) := by decide +kernel
theorem dX10_init_41 : decode cX10_init 41 = .ok (.dup, 1) := by decide +kernel
theorem dX10_init_42 : decode cX10_init 42 = .ok (.aload_n 0, 1) := by decide +kernel
theorem dX10_init_43 : decode cX10_init 43 = .ok (.getfield 10, 3) := by decide +kernel
theorem dX10_init_46 : decode cX10_init 46 = .ok (.aload_n 0, 1) := by decide +kernel
theorem dX10_init_47 : decode cX10_init 47 = .ok (.getfield 19, 3) := by decide +kernel
theorem dX10_init_50 : decode cX10_init 50 = .ok (.invokespecial 32, 3) := by decide +kernel
theorem dX10_init_53 : decode cX10_init 53 = .ok (.putfield 35, 3) := by decide +kernel
theorem dX10_init_56 : decode cX10_init 56 = .ok (.aload_n 0, 1) := by decide +kernel
theorem dX10_init_57 : decode cX10_init 57 = .ok (.new 39, 3) := by decide +kernel
theorem dX10_init_60 : decode cX10_init 60 = .ok (.dup, 1) := by decide +kernel
theorem dX10_init_61 : decode cX10_init 61 = .ok (.aload_n 0, 1) := by decide +kernel
theorem dX10_init_62 : decode cX10_init 62 = .ok (.getfield 19, 3) := by decide +kernel
theorem dX10_init_65 : decode cX10_init 65 = .ok (.aload_n 0, 1) := by decide +kernel
theorem dX10_init_66 : decode cX10_init 66 = .ok (.getfield 35, 3) := by decide +kernel
theorem dX10_init_69 : decode cX10_init 69 = .ok (.invokespecial 41, 3) := by decide +kernel
theorem dX10_init_72 : decode cX10_init 72 = .ok (.putfield 44, 3) := by decide +kernel
theorem dX10_init_75 : decode cX10_init 75 = .ok (.aload_n 0, 1) := by decide +kernel
theorem dX10_init_76 : decode cX10_init 76 = .ok (.new 39, 3) := by decide +kernel
theorem dX10_init_79 : decode cX10_init 79 = .ok (.dup, 1) := by decide +kernel
theorem dX10_init_80 : decode cX10_init 80 = .ok (.aload_n 0, 1) := by decide +kernel
theorem dX10_init_81 : decode cX10_init 81 = .ok (.getfield 19, 3) := by decide +kernel
theorem dX10_init_84 : decode cX10_init 84 = .ok (.aload_n 0, 1) := by decide +kernel
theorem dX10_init_85 : decode cX10_init 85 = .ok (.getfield 35, 3) := by decide +kernel
theorem dX10_init_88 : decode cX10_init 88 = .ok (.invokespecial 41, 3) := by decide +kernel
theorem dX10_init_91 : decode cX10_init 91 = .ok (.putfield 48, 3) := by decide +kernel
theorem dX10_init_94 : decode cX10_init 94 = .ok (.aload_n 0, 1) := by decide +kernel
theorem dX10_init_95 : decode cX10_init 95 = .ok (.new 51, 3) := by decide +kernel
theorem dX10_init_98 : decode cX10_init 98 = .ok (.dup, 1) := by decide +kernel
theorem dX10_init_99 : decode cX10_init 99 = .ok (.aload_n 0, 1) := by decide +kernel
theorem dX10_init_100 : decode cX10_init 100 = .ok (.getfield 10, 3) := by decide +kernel
theorem dX10_init_103 : decode cX10_init 103 = .ok (.aload_n 0, 1) := by decide +kernel
theorem dX10_init_104 : decode cX10_init 104 = .ok (.getfield 19, 3) := by decide +kernel
theorem dX10_init_107 : decode cX10_init 107 = .ok (.invokespecial 53, 3) := by decide +kernel
theorem dX10_init_110 : decode cX10_init 110 = .ok (.putfield 54, 3) := by decide +kernel
theorem dX10_init_113 : decode cX10_init 113 = .ok (.aload_n 0, 1) := by decide +kernel
theorem dX10_init_114 : decode cX10_init 114 = .ok (.new 58, 3) := by decide +kernel
theorem dX10_init_117 : decode cX10_init 117 = .ok (.dup, 1) := by decide +kernel
theorem dX10_init_118 : decode cX10_init 118 = .ok (.invokespecial 60, 3) := by decide +kernel
theorem dX10_init_121 : decode cX10_init 121 = .ok (.putfield 61, 3) := by decide +kernel
theorem dX10_init_124 : decode cX10_init 124 = .ok (.aload_n 0, 1) := by decide +kernel
theorem dX10_init_125 : decode cX10_init 125 = .ok (.bipush 16, 2) := by decide +kernel
theorem dX10_init_127 : decode cX10_init 127 = .ok (.newarray .int, 2) := by decide +kernel
theorem dX10_init_129 : decode cX10_init 129 = .ok (.putfield 65, 3) := by decide +kernel
theorem dX10_init_132 : decode cX10_init 132 = .ok (.aload_n 0, 1) := by decide +kernel
theorem dX10_init_133 : decode cX10_init 133 = .ok (.iconst 0, 1) := by decide +kernel
theorem dX10_init_134 : decode cX10_init 134 = .ok (.putfield 69, 3) := by decide +kernel
theorem dX10_init_137 : decode cX10_init 137 = .ok (.aload_n 0, 1) := by decide +kernel
theorem dX10_init_138 : decode cX10_init 138 = .ok (.aconst_null, 1) := by decide +kernel
theorem dX10_init_139 : decode cX10_init 139 = .ok (.putfield 73, 3) := by decide +kernel
theorem dX10_init_142 : decode cX10_init 142 = .ok (.aload_n 0, 1) := by decide +kernel
theorem dX10_init_143 : decode cX10_init 143 = .ok (.aconst_null, 1) := by decide +kernel
theorem dX10_init_144 : decode cX10_init 144 = .ok (.putfield 77, 3) := by decide +kernel
theorem dX10_init_147 : decode cX10_init 147 = .ok (.aload_n 0, 1) := by decide +kernel
theorem dX10_init_148 : decode cX10_init 148 = .ok (.iconst 0, 1) := by decide +kernel
theorem dX10_init_149 : decode cX10_init 149 = .ok (.putfield 80, 3) := by decide +kernel
theorem dX10_init_152 : decode cX10_init 152 = .ok (.aload_n 0, 1) := by decide +kernel
theorem dX10_init_153 : decode cX10_init 153 = .ok (.iconst 0, 1) := by decide +kernel
theorem dX10_init_154 : decode cX10_init 154 = .ok (.putfield 84, 3) := by decide +kernel
theorem dX10_init_157 : decode cX10_init 157 = .ok (.aload_n 0, 1) := by decide +kernel
theorem dX10_init_158 : decode cX10_init 158 = .ok (.iconst 0, 1) := by decide +kernel
theorem dX10_init_159 : decode cX10_init 159 = .ok (.putfield 87, 3) := by decide +kernel
theorem dX10_init_162 : decode cX10_init 162 = .ok (.return_, 1) := by decide +kernel
theorem dX10_course_0 : decode cX10_course 0 = .ok (.iload_n 1, 1) := by decide +kernel
theorem dX10_course_1 : decode cX10_course 1 = .ok (.bipush 99, 2) := by decide +kernel
theorem dX10_course_3 : decode cX10_course 3 = .ok (.invokestatic 90, 3) := by decide +kernel
theorem dX10_course_6 : decode cX10_course 6 = .ok (.ifCond .eq 12, 3) := by decide +kernel
theorem dX10_course_9 : decode cX10_course 9 = .ok (.iload_n 2, 1) := by decide +kernel
theorem dX10_course_10 : decode cX10_course 10 = .ok (.bipush 12, 2) := by decide +kernel
theorem dX10_course_12 : decode cX10_course 12 = .ok (.invokestatic 90, 3) := by decide +kernel
theorem dX10_course_15 : decode cX10_course 15 = .ok (.ifCond .ne 6, 3) := by decide +kernel
theorem dX10_course_18 : decode cX10_course 18 = .ok (.bipush (-2), 2) := by decide +kernel
theorem dX10_course_20 : decode cX10_course 20 = .ok (.ireturn, 1) := by decide +kernel
theorem dX10_course_21 : decode cX10_course 21 = .ok (.aload_n 0, 1) := by decide +kernel
theorem dX10_course_22 : decode cX10_course 22 = .ok (.getfield 19, 3) := by decide +kernel
theorem dX10_course_25 : decode cX10_course 25 = .ok (.getfield 94, 3) := by decide +kernel
theorem dX10_course_28 : decode cX10_course 28 = .ok (.ifCond .le 6, 3) := by decide +kernel
theorem dX10_course_34 : decode cX10_course 34 = .ok (.aload_n 0, 1) := by decide +kernel
theorem dX10_course_35 : decode cX10_course 35 = .ok (.getfield 10, 3) := by decide +kernel
theorem dX10_course_38 : decode cX10_course 38 = .ok (.getfield 97, 3) := by decide +kernel
theorem dX10_course_41 : decode cX10_course 41 = .ok (.bipush 6, 2) := by decide +kernel
theorem dX10_course_43 : decode cX10_course 43 = .ok (.if_icmp .lt 6, 3) := by decide +kernel
theorem dX10_course_49 : decode cX10_course 49 = .ok (.aload_n 0, 1) := by decide +kernel
theorem dX10_course_50 : decode cX10_course 50 = .ok (.invokevirtual 100, 3) := by decide +kernel
theorem dX10_course_53 : decode cX10_course 53 = .ok (.aload_n 0, 1) := by decide +kernel
theorem dX10_course_54 : decode cX10_course 54 = .ok (.getfield 10, 3) := by decide +kernel
theorem dX10_course_57 : decode cX10_course 57 = .ok (.iload_n 1, 1) := by decide +kernel
theorem dX10_course_58 : decode cX10_course 58 = .ok (.iload_n 2, 1) := by decide +kernel
theorem dX10_course_59 : decode cX10_course 59 = .ok (.invokevirtual 103, 3) := by decide +kernel
theorem dX10_course_62 : decode cX10_course 62 = .ok (.ireturn, 1) := by decide +kernel
theorem dX10_tune_0 : decode cX10_tune 0 = .ok (.aload_n 0, 1) := by decide +kernel
theorem dX10_tune_1 : decode cX10_tune 1 = .ok (.getfield 10, 3) := by decide +kernel
theorem dX10_tune_4 : decode cX10_tune 4 = .ok (.iload_n 1, 1) := by decide +kernel
theorem dX10_tune_5 : decode cX10_tune 5 = .ok (.invokevirtual 107, 3) := by decide +kernel
theorem dX10_tune_8 : decode cX10_tune 8 = .ok (.ifCond .ne 5, 3) := by decide +kernel
theorem dX10_tune_11 : decode cX10_tune 11 = .ok (.iconst (-1), 1) := by decide +kernel
theorem dX10_tune_12 : decode cX10_tune 12 = .ok (.ireturn, 1) := by decide +kernel
theorem dX10_slack_0 : decode cX10_slack 0 = .ok (.iload_n 1, 1) := by decide +kernel
theorem dX10_slack_1 : decode cX10_slack 1 = .ok (.iconst 1, 1) := by decide +kernel
theorem dX10_slack_2 : decode cX10_slack 2 = .ok (.if_icmp .lt 8, 3) := by decide +kernel
theorem dX10_slack_5 : decode cX10_slack 5 = .ok (.iload_n 1, 1) := by decide +kernel
theorem dX10_slack_6 : decode cX10_slack 6 = .ok (.iconst 4, 1) := by decide +kernel
theorem dX10_slack_7 : decode cX10_slack 7 = .ok (.if_icmp .le 5, 3) := by decide +kernel
theorem dX10_slack_10 : decode cX10_slack 10 = .ok (.iconst (-1), 1) := by decide +kernel
theorem dX10_slack_11 : decode cX10_slack 11 = .ok (.ireturn, 1) := by decide +kernel
theorem dX10_slack_12 : decode cX10_slack 12 = .ok (.iload_n 2, 1) := by decide +kernel
theorem dX10_slack_13 : decode cX10_slack 13 = .ok (.iconst 2, 1) := by decide +kernel
theorem dX10_slack_14 : decode cX10_slack 14 = .ok (.invokestatic 90, 3) := by decide +kernel
theorem dX10_slack_17 : decode cX10_slack 17 = .ok (.ifCond .ne 6, 3) := by decide +kernel
theorem dX10_slack_20 : decode cX10_slack 20 = .ok (.bipush (-2), 2) := by decide +kernel
theorem dX10_slack_22 : decode cX10_slack 22 = .ok (.ireturn, 1) := by decide +kernel
theorem dX10_slack_23 : decode cX10_slack 23 = .ok (.aload_n 0, 1) := by decide +kernel
theorem dX10_slack_24 : decode cX10_slack 24 = .ok (.invokevirtual 100, 3) := by decide +kernel
theorem dX10_slack_27 : decode cX10_slack 27 = .ok (.aload_n 0, 1) := by decide +kernel
theorem dX10_slack_28 : decode cX10_slack 28 = .ok (.getfield 10, 3) := by decide +kernel
theorem dX10_slack_31 : decode cX10_slack 31 = .ok (.getfield 118, 3) := by decide +kernel
theorem dX10_slack_34 : decode cX10_slack 34 = .ok (.iload_n 1, 1) := by decide +kernel
theorem dX10_slack_35 : decode cX10_slack 35 = .ok (.iload_n 2, 1) := by decide +kernel
theorem dX10_slack_36 : decode cX10_slack 36 = .ok (.invokestatic 114, 3) := by decide +kernel
theorem dX10_slack_39 : decode cX10_slack 39 = .ok (.ireturn, 1) := by decide +kernel
theorem dX10_bars_0 : decode cX10_bars 0 = .ok (.iload_n 1, 1) := by decide +kernel
theorem dX10_bars_1 : decode cX10_bars 1 = .ok (.iconst 1, 1) := by decide +kernel
theorem dX10_bars_2 : decode cX10_bars 2 = .ok (.invokestatic 90, 3) := by decide +kernel
theorem dX10_bars_5 : decode cX10_bars 5 = .ok (.ifCond .ne 6, 3) := by decide +kernel
theorem dX10_bars_8 : decode cX10_bars 8 = .ok (.bipush (-2), 2) := by decide +kernel
theorem dX10_bars_10 : decode cX10_bars 10 = .ok (.ireturn, 1) := by decide +kernel
theorem dX10_bars_11 : decode cX10_bars 11 = .ok (.aload_n 0, 1) := by decide +kernel
theorem dX10_bars_12 : decode cX10_bars 12 = .ok (.invokevirtual 100, 3) := by decide +kernel
theorem dX10_bars_15 : decode cX10_bars 15 = .ok (.aload_n 0, 1) := by decide +kernel
theorem dX10_bars_16 : decode cX10_bars 16 = .ok (.getfield 10, 3) := by decide +kernel
theorem dX10_bars_19 : decode cX10_bars 19 = .ok (.getfield 121, 3) := by decide +kernel
theorem dX10_bars_22 : decode cX10_bars 22 = .ok (.ifCond .eq 7, 3) := by decide +kernel
theorem dX10_bars_29 : decode cX10_bars 29 = .ok (.iconst 0, 1) := by decide +kernel
theorem dX10_bars_30 : decode cX10_bars 30 = .ok (.istore_n 2, 1) := by decide +kernel
theorem dX10_bars_31 : decode cX10_bars 31 = .ok (.aload_n 0, 1) := by decide +kernel
theorem dX10_bars_32 : decode cX10_bars 32 = .ok (.getfield 10, 3) := by decide +kernel
theorem dX10_bars_35 : decode cX10_bars 35 = .ok (.iload_n 1, 1) := by decide +kernel
theorem dX10_bars_36 : decode cX10_bars 36 = .ok (.iconst 1, 1) := by decide +kernel
theorem dX10_bars_37 : decode cX10_bars 37 = .ok (.if_icmp .ne 7, 3) := by decide +kernel
theorem dX10_bars_40 : decode cX10_bars 40 = .ok (.iconst 1, 1) := by decide +kernel
theorem dX10_bars_41 : decode cX10_bars 41 = .ok (.goto 4, 3) := by decide +kernel
theorem dX10_bars_44 : decode cX10_bars 44 = .ok (.iconst 0, 1) := by decide +kernel
theorem dX10_bars_45 : decode cX10_bars 45 = .ok (.putfield 121, 3) := by decide +kernel
theorem dX10_bars_48 : decode cX10_bars 48 = .ok (.iload_n 2, 1) := by decide +kernel
theorem dX10_bars_49 : decode cX10_bars 49 = .ok (.ireturn, 1) := by decide +kernel
theorem dX10_weight_0 : decode cX10_weight 0 = .ok (.iload_n 1, 1) := by decide +kernel
theorem dX10_weight_1 : decode cX10_weight 1 = .ok (.iconst 4, 1) := by decide +kernel
theorem dX10_weight_2 : decode cX10_weight 2 = .ok (.invokestatic 90, 3) := by decide +kernel
theorem dX10_weight_5 : decode cX10_weight 5 = .ok (.ifCond .ne 5, 3) := by decide +kernel
theorem dX10_weight_8 : decode cX10_weight 8 = .ok (.iconst (-1), 1) := by decide +kernel
theorem dX10_weight_9 : decode cX10_weight 9 = .ok (.ireturn, 1) := by decide +kernel
theorem dX10_weight_10 : decode cX10_weight 10 = .ok (.iload_n 2, 1) := by decide +kernel
theorem dX10_weight_11 : decode cX10_weight 11 = .ok (.bipush 9, 2) := by decide +kernel
theorem dX10_weight_13 : decode cX10_weight 13 = .ok (.invokestatic 90, 3) := by decide +kernel
theorem dX10_weight_16 : decode cX10_weight 16 = .ok (.ifCond .ne 6, 3) := by decide +kernel
theorem dX10_weight_19 : decode cX10_weight 19 = .ok (.bipush (-2), 2) := by decide +kernel
theorem dX10_weight_21 : decode cX10_weight 21 = .ok (.ireturn, 1) := by decide +kernel
theorem dX10_weight_22 : decode cX10_weight 22 = .ok (.aload_n 0, 1) := by decide +kernel
theorem dX10_weight_23 : decode cX10_weight 23 = .ok (.invokevirtual 100, 3) := by decide +kernel
theorem dX10_weight_26 : decode cX10_weight 26 = .ok (.aload_n 0, 1) := by decide +kernel
theorem dX10_weight_27 : decode cX10_weight 27 = .ok (.getfield 10, 3) := by decide +kernel
theorem dX10_weight_30 : decode cX10_weight 30 = .ok (.getfield 124, 3) := by decide +kernel
theorem dX10_weight_33 : decode cX10_weight 33 = .ok (.iload_n 1, 1) := by decide +kernel
theorem dX10_weight_34 : decode cX10_weight 34 = .ok (.iload_n 2, 1) := by decide +kernel
theorem dX10_weight_35 : decode cX10_weight 35 = .ok (.invokestatic 114, 3) := by decide +kernel
theorem dX10_weight_38 : decode cX10_weight 38 = .ok (.ireturn, 1) := by decide +kernel
theorem dX10_note_0 : decode cX10_note 0 = .ok (.iload_n 1, 1) := by decide +kernel
theorem dX10_note_1 : decode cX10_note 1 = .ok (.bipush 120, 2) := by decide +kernel
theorem dX10_note_3 : decode cX10_note 3 = .ok (.invokestatic 90, 3) := by decide +kernel
theorem dX10_note_6 : decode cX10_note 6 = .ok (.ifCond .eq 20, 3) := by decide +kernel
theorem dX10_note_9 : decode cX10_note 9 = .ok (.iload_n 2, 1) := by decide +kernel
theorem dX10_note_10 : decode cX10_note 10 = .ok (.iconst 3, 1) := by decide +kernel
theorem dX10_note_11 : decode cX10_note 11 = .ok (.invokestatic 90, 3) := by decide +kernel
theorem dX10_note_14 : decode cX10_note 14 = .ok (.ifCond .eq 12, 3) := by decide +kernel
theorem dX10_note_17 : decode cX10_note 17 = .ok (.iload_n 3, 1) := by decide +kernel
theorem dX10_note_18 : decode cX10_note 18 = .ok (.bipush 100, 2) := by decide +kernel
theorem dX10_note_20 : decode cX10_note 20 = .ok (.invokestatic 90, 3) := by decide +kernel
theorem dX10_note_23 : decode cX10_note 23 = .ok (.ifCond .ne 6, 3) := by decide +kernel
theorem dX10_note_26 : decode cX10_note 26 = .ok (.bipush (-2), 2) := by decide +kernel
theorem dX10_note_28 : decode cX10_note 28 = .ok (.ireturn, 1) := by decide +kernel
theorem dX10_note_29 : decode cX10_note 29 = .ok (.aload_n 0, 1) := by decide +kernel
theorem dX10_note_30 : decode cX10_note 30 = .ok (.getfield 19, 3) := by decide +kernel
theorem dX10_note_33 : decode cX10_note 33 = .ok (.aload_n 0, 1) := by decide +kernel
theorem dX10_note_34 : decode cX10_note 34 = .ok (.getfield 19, 3) := by decide +kernel
theorem dX10_note_37 : decode cX10_note 37 = .ok (.getfield 94, 3) := by decide +kernel
theorem dX10_note_40 : decode cX10_note 40 = .ok (.iload_n 1, 1) := by decide +kernel
theorem dX10_note_41 : decode cX10_note 41 = .ok (.invokevirtual 127, 3) := by decide +kernel
theorem dX10_note_44 : decode cX10_note 44 = .ok (.iconst (-1), 1) := by decide +kernel
theorem dX10_note_45 : decode cX10_note 45 = .ok (.if_icmp .eq 6, 3) := by decide +kernel
theorem dX10_note_51 : decode cX10_note 51 = .ok (.aload_n 0, 1) := by decide +kernel
theorem dX10_note_52 : decode cX10_note 52 = .ok (.getfield 19, 3) := by decide +kernel
theorem dX10_note_55 : decode cX10_note 55 = .ok (.iload_n 1, 1) := by decide +kernel
theorem dX10_note_56 : decode cX10_note 56 = .ok (.iload_n 2, 1) := by decide +kernel
theorem dX10_note_57 : decode cX10_note 57 = .ok (.invokevirtual 130, 3) := by decide +kernel
theorem dX10_note_60 : decode cX10_note 60 = .ok (.istore 4, 2) := by decide +kernel
theorem dX10_note_62 : decode cX10_note 62 = .ok (.iload_n 2, 1) := by decide +kernel
theorem dX10_note_63 : decode cX10_note 63 = .ok (.invokestatic 133, 3) := by decide +kernel
theorem dX10_note_66 : decode cX10_note 66 = .ok (.ifCond .eq 12, 3) := by decide +kernel
theorem dX10_note_69 : decode cX10_note 69 = .ok (.iload 4, 2) := by decide +kernel
theorem dX10_note_71 : decode cX10_note 71 = .ok (.iconst (-1), 1) := by decide +kernel
theorem dX10_note_72 : decode cX10_note 72 = .ok (.if_icmp .ne 6, 3) := by decide +kernel
theorem dX10_note_75 : decode cX10_note 75 = .ok (.bipush (-3), 2) := by decide +kernel
theorem dX10_note_77 : decode cX10_note 77 = .ok (.ireturn, 1) := by decide +kernel
theorem dX10_note_78 : decode cX10_note 78 = .ok (.aload_n 0, 1) := by decide +kernel
theorem dX10_note_79 : decode cX10_note 79 = .ok (.getfield 19, 3) := by decide +kernel
theorem dX10_note_82 : decode cX10_note 82 = .ok (.getfield 136, 3) := by decide +kernel
theorem dX10_note_85 : decode cX10_note 85 = .ok (.aload_n 0, 1) := by decide +kernel
theorem dX10_note_86 : decode cX10_note 86 = .ok (.getfield 19, 3) := by decide +kernel
theorem dX10_note_89 : decode cX10_note 89 = .ok (.getfield 94, 3) := by decide +kernel
theorem dX10_note_92 : decode cX10_note 92 = .ok (.iaload, 1) := by decide +kernel
theorem dX10_note_93 : decode cX10_note 93 = .ok (.iconst 4, 1) := by decide +kernel
theorem dX10_note_94 : decode cX10_note 94 = .ok (.if_icmp .lt 6, 3) := by decide +kernel
theorem dX10_note_100 : decode cX10_note 100 = .ok (.aload_n 0, 1) := by decide +kernel
theorem dX10_note_101 : decode cX10_note 101 = .ok (.getfield 19, 3) := by decide +kernel
theorem dX10_note_104 : decode cX10_note 104 = .ok (.iload_n 1, 1) := by decide +kernel
theorem dX10_note_105 : decode cX10_note 105 = .ok (.iload_n 2, 1) := by decide +kernel
theorem dX10_note_106 : decode cX10_note 106 = .ok (.iload_n 3, 1) := by decide +kernel
theorem dX10_note_107 : decode cX10_note 107 = .ok (.iload 4, 2) := by decide +kernel
theorem dX10_note_109 : decode cX10_note 109 = .ok (.iconst (-1), 1) := by decide +kernel
theorem dX10_note_110 : decode cX10_note 110 = .ok (.invokevirtual 139, 3) := by decide +kernel
theorem dX10_note_113 : decode cX10_note 113 = .ok (.ireturn, 1) := by decide +kernel
theorem dX10_tick_0 : decode cX10_tick 0 = .ok (.aload_n 0, 1) := by decide +kernel
theorem dX10_tick_1 : decode cX10_tick 1 = .ok (.getfield 10, 3) := by decide +kernel
theorem dX10_tick_4 : decode cX10_tick 4 = .ok (.getfield 97, 3) := by decide +kernel
theorem dX10_tick_7 : decode cX10_tick 7 = .ok (.ifCond .ne 6, 3) := by decide +kernel
theorem dX10_tick_10 : decode cX10_tick 10 = .ok (.bipush (-3), 2) := by decide +kernel
theorem dX10_tick_12 : decode cX10_tick 12 = .ok (.ireturn, 1) := by decide +kernel
theorem dX10_clear_0 : decode cX10_clear 0 = .ok (.aload_n 0, 1) := by decide +kernel
theorem dX10_clear_1 : decode cX10_clear 1 = .ok (.invokevirtual 143, 3) := by decide +kernel
theorem dX10_clear_4 : decode cX10_clear 4 = .ok (.aload_n 0, 1) := by decide +kernel
theorem dX10_clear_5 : decode cX10_clear 5 = .ok (.getfield 19, 3) := by decide +kernel
theorem dX10_clear_8 : decode cX10_clear 8 = .ok (.getfield 94, 3) := by decide +kernel
theorem dX10_clear_11 : decode cX10_clear 11 = .ok (.istore_n 1, 1) := by decide +kernel
theorem dX10_clear_12 : decode cX10_clear 12 = .ok (.aload_n 0, 1) := by decide +kernel
theorem dX10_clear_13 : decode cX10_clear 13 = .ok (.getfield 19, 3) := by decide +kernel
theorem dX10_clear_16 : decode cX10_clear 16 = .ok (.invokevirtual 154, 3) := by decide +kernel
theorem dX10_clear_19 : decode cX10_clear 19 = .ok (.aload_n 0, 1) := by decide +kernel
theorem dX10_clear_20 : decode cX10_clear 20 = .ok (.getfield 44, 3) := by decide +kernel
theorem dX10_clear_23 : decode cX10_clear 23 = .ok (.invokevirtual 157, 3) := by decide +kernel
theorem dX10_clear_26 : decode cX10_clear 26 = .ok (.iload_n 1, 1) := by decide +kernel
theorem dX10_clear_27 : decode cX10_clear 27 = .ok (.ireturn, 1) := by decide +kernel
theorem dX10_fix_0 : decode cX10_fix 0 = .ok (.aload_n 0, 1) := by decide +kernel
theorem dX10_fix_1 : decode cX10_fix 1 = .ok (.getfield 19, 3) := by decide +kernel
theorem dX10_fix_4 : decode cX10_fix 4 = .ok (.iload_n 1, 1) := by decide +kernel
theorem dX10_fix_5 : decode cX10_fix 5 = .ok (.iload_n 2, 1) := by decide +kernel
theorem dX10_fix_6 : decode cX10_fix 6 = .ok (.invokevirtual 160, 3) := by decide +kernel
theorem dX10_fix_9 : decode cX10_fix 9 = .ok (.ifCond .ne 5, 3) := by decide +kernel
theorem dX10_fix_12 : decode cX10_fix 12 = .ok (.iconst (-1), 1) := by decide +kernel
theorem dX10_fix_13 : decode cX10_fix 13 = .ok (.ireturn, 1) := by decide +kernel
theorem dX10_told_0 : decode cX10_told 0 = .ok (.aload_n 0, 1) := by decide +kernel
theorem dX10_told_1 : decode cX10_told 1 = .ok (.getfield 19, 3) := by decide +kernel
theorem dX10_told_4 : decode cX10_told 4 = .ok (.iload_n 1, 1) := by decide +kernel
theorem dX10_told_5 : decode cX10_told 5 = .ok (.iload_n 2, 1) := by decide +kernel
theorem dX10_told_6 : decode cX10_told 6 = .ok (.invokevirtual 160, 3) := by decide +kernel
theorem dX10_told_9 : decode cX10_told 9 = .ok (.ifCond .ne 5, 3) := by decide +kernel
theorem dX10_told_12 : decode cX10_told 12 = .ok (.iconst (-1), 1) := by decide +kernel
theorem dX10_told_13 : decode cX10_told 13 = .ok (.ireturn, 1) := by decide +kernel
theorem dX10_grips_0 : decode cX10_grips 0 = .ok (.aload_n 0, 1) := by decide +kernel
theorem dX10_grips_1 : decode cX10_grips 1 = .ok (.getfield 19, 3) := by decide +kernel
theorem dX10_grips_4 : decode cX10_grips 4 = .ok (.iload_n 1, 1) := by decide +kernel
theorem dX10_grips_5 : decode cX10_grips 5 = .ok (.invokevirtual 178, 3) := by decide +kernel
theorem dX10_grips_8 : decode cX10_grips 8 = .ok (.ifCond .ne 5, 3) := by decide +kernel
theorem dX10_grips_11 : decode cX10_grips 11 = .ok (.iconst (-1), 1) := by decide +kernel
theorem dX10_grips_12 : decode cX10_grips 12 = .ok (.ireturn, 1) := by decide +kernel
theorem dX10_grip_0 : decode cX10_grip 0 = .ok (.aload_n 0, 1) := by decide +kernel
theorem dX10_grip_1 : decode cX10_grip 1 = .ok (.getfield 19, 3) := by decide +kernel
theorem dX10_grip_4 : decode cX10_grip 4 = .ok (.iload_n 1, 1) := by decide +kernel
theorem dX10_grip_5 : decode cX10_grip 5 = .ok (.invokevirtual 178, 3) := by decide +kernel
theorem dX10_grip_8 : decode cX10_grip 8 = .ok (.ifCond .ne 5, 3) := by decide +kernel
theorem dX10_grip_11 : decode cX10_grip 11 = .ok (.iconst (-1), 1) := by decide +kernel
theorem dX10_grip_12 : decode cX10_grip 12 = .ok (.ireturn, 1) := by decide +kernel
theorem dX10_why_0 : decode cX10_why 0 = .ok (.aload_n 0, 1) := by decide +kernel
theorem dX10_why_1 : decode cX10_why 1 = .ok (.getfield 19, 3) := by decide +kernel
theorem dX10_why_4 : decode cX10_why 4 = .ok (.iload_n 1, 1) := by decide +kernel
theorem dX10_why_5 : decode cX10_why 5 = .ok (.invokevirtual 178, 3) := by decide +kernel
theorem dX10_why_8 : decode cX10_why 8 = .ok (.ifCond .ne 5, 3) := by decide +kernel
theorem dX10_why_11 : decode cX10_why 11 = .ok (.iconst (-1), 1) := by decide +kernel
theorem dX10_why_12 : decode cX10_why 12 = .ok (.ireturn, 1) := by decide +kernel
theorem dX10_way_0 : decode cX10_way 0 = .ok (.aload_n 0, 1) := by decide +kernel
theorem dX10_way_1 : decode cX10_way 1 = .ok (.getfield 19, 3) := by decide +kernel
theorem dX10_way_4 : decode cX10_way 4 = .ok (.getfield 94, 3) := by decide +kernel
theorem dX10_way_7 : decode cX10_way 7 = .ok (.ifCond .ne 6, 3) := by decide +kernel
theorem dX10_way_10 : decode cX10_way 10 = .ok (.bipush (-3), 2) := by decide +kernel
theorem dX10_way_12 : decode cX10_way 12 = .ok (.ireturn, 1) := by decide +kernel
theorem dX10_next_0 : decode cX10_next 0 = .ok (.aload_n 0, 1) := by decide +kernel
theorem dX10_next_1 : decode cX10_next 1 = .ok (.getfield 61, 3) := by decide +kernel
theorem dX10_next_4 : decode cX10_next 4 = .ok (.invokevirtual 214, 3) := by decide +kernel
theorem dX10_next_7 : decode cX10_next 7 = .ok (.ifCond .eq 15, 3) := by decide +kernel
theorem dX10_next_22 : decode cX10_next 22 = .ok (.bipush (-3), 2) := by decide +kernel
theorem dX10_next_24 : decode cX10_next 24 = .ok (.ireturn, 1) := by decide +kernel
theorem dX10_at_0 : decode cX10_at 0 = .ok (.aload_n 0, 1) := by decide +kernel
theorem dX10_at_1 : decode cX10_at 1 = .ok (.getfield 19, 3) := by decide +kernel
theorem dX10_at_4 : decode cX10_at 4 = .ok (.iload_n 1, 1) := by decide +kernel
theorem dX10_at_5 : decode cX10_at 5 = .ok (.invokevirtual 178, 3) := by decide +kernel
theorem dX10_at_8 : decode cX10_at 8 = .ok (.ifCond .eq 13, 3) := by decide +kernel
theorem dX10_at_21 : decode cX10_at 21 = .ok (.iconst (-1), 1) := by decide +kernel
theorem dX10_at_22 : decode cX10_at 22 = .ok (.ireturn, 1) := by decide +kernel
theorem dX10_rank_0 : decode cX10_rank 0 = .ok (.aload_n 0, 1) := by decide +kernel
theorem dX10_rank_1 : decode cX10_rank 1 = .ok (.getfield 61, 3) := by decide +kernel
theorem dX10_rank_4 : decode cX10_rank 4 = .ok (.invokevirtual 214, 3) := by decide +kernel
theorem dX10_rank_7 : decode cX10_rank 7 = .ok (.ifCond .ne 6, 3) := by decide +kernel
theorem dX10_rank_10 : decode cX10_rank 10 = .ok (.bipush (-3), 2) := by decide +kernel
theorem dX10_rank_12 : decode cX10_rank 12 = .ok (.ireturn, 1) := by decide +kernel
theorem dX10_say_0 : decode cX10_say 0 = .ok (.iload_n 1, 1) := by decide +kernel
theorem dX10_say_1 : decode cX10_say 1 = .ok (.ifCond .ge 6, 3) := by decide +kernel
theorem dX10_say_4 : decode cX10_say 4 = .ok (.bipush (-2), 2) := by decide +kernel
theorem dX10_say_6 : decode cX10_say 6 = .ok (.ireturn, 1) := by decide +kernel
theorem dX10_say_7 : decode cX10_say 7 = .ok (.aload_n 0, 1) := by decide +kernel
theorem dX10_say_8 : decode cX10_say 8 = .ok (.getfield 69, 3) := by decide +kernel
theorem dX10_say_11 : decode cX10_say 11 = .ok (.bipush 16, 2) := by decide +kernel
theorem dX10_say_13 : decode cX10_say 13 = .ok (.if_icmp .lt 6, 3) := by decide +kernel
theorem dX10_say_19 : decode cX10_say 19 = .ok (.aload_n 0, 1) := by decide +kernel
theorem dX10_say_20 : decode cX10_say 20 = .ok (.getfield 65, 3) := by decide +kernel
theorem dX10_say_23 : decode cX10_say 23 = .ok (.aload_n 0, 1) := by decide +kernel
theorem dX10_say_24 : decode cX10_say 24 = .ok (.getfield 69, 3) := by decide +kernel
theorem dX10_say_27 : decode cX10_say 27 = .ok (.iload_n 1, 1) := by decide +kernel
theorem dX10_say_28 : decode cX10_say 28 = .ok (.iastore, 1) := by decide +kernel
theorem dX10_say_29 : decode cX10_say 29 = .ok (.aload_n 0, 1) := by decide +kernel
theorem dX10_say_30 : decode cX10_say 30 = .ok (.dup, 1) := by decide +kernel
theorem dX10_say_31 : decode cX10_say 31 = .ok (.getfield 69, 3) := by decide +kernel
theorem dX10_say_34 : decode cX10_say 34 = .ok (.iconst 1, 1) := by decide +kernel
theorem dX10_say_35 : decode cX10_say 35 = .ok (.iadd, 1) := by decide +kernel
theorem dX10_say_36 : decode cX10_say 36 = .ok (.putfield 69, 3) := by decide +kernel
theorem dX10_say_39 : decode cX10_say 39 = .ok (.aload_n 0, 1) := by decide +kernel
theorem dX10_say_40 : decode cX10_say 40 = .ok (.getfield 69, 3) := by decide +kernel
theorem dX10_say_43 : decode cX10_say 43 = .ok (.ireturn, 1) := by decide +kernel
theorem dX10_check_0 : decode cX10_check 0 = .ok (.aload_n 0, 1) := by decide +kernel
theorem dX10_check_1 : decode cX10_check 1 = .ok (.getfield 19, 3) := by decide +kernel
theorem dX10_check_4 : decode cX10_check 4 = .ok (.getfield 94, 3) := by decide +kernel
theorem dX10_check_7 : decode cX10_check 7 = .ok (.ifCond .ne 6, 3) := by decide +kernel
theorem dX10_check_10 : decode cX10_check 10 = .ok (.bipush (-3), 2) := by decide +kernel
theorem dX10_check_12 : decode cX10_check 12 = .ok (.ireturn, 1) := by decide +kernel
theorem dX10_arrange_0 : decode cX10_arrange 0 = .ok (.aload_n 0, 1) := by decide +kernel
theorem dX10_arrange_1 : decode cX10_arrange 1 = .ok (.getfield 19, 3) := by decide +kernel
theorem dX10_arrange_4 : decode cX10_arrange 4 = .ok (.getfield 94, 3) := by decide +kernel
theorem dX10_arrange_7 : decode cX10_arrange 7 = .ok (.ifCond .ne 6, 3) := by decide +kernel
theorem dX10_arrange_10 : decode cX10_arrange 10 = .ok (.bipush (-3), 2) := by decide +kernel
theorem dX10_arrange_12 : decode cX10_arrange 12 = .ok (.ireturn, 1) := by decide +kernel
theorem dX10_left_0 : decode cX10_left 0 = .ok (.aload_n 0, 1) := by decide +kernel
theorem dX10_left_1 : decode cX10_left 1 = .ok (.getfield 80, 3) := by decide +kernel
theorem dX10_left_4 : decode cX10_left 4 = .ok (.ifCond .eq 21, 3) := by decide +kernel
theorem dX10_left_25 : decode cX10_left 25 = .ok (.iconst (-1), 1) := by decide +kernel
theorem dX10_left_26 : decode cX10_left 26 = .ok (.ireturn, 1) := by decide +kernel
theorem dX10_rest_0 : decode cX10_rest 0 = .ok (.aload_n 0, 1) := by decide +kernel
theorem dX10_rest_1 : decode cX10_rest 1 = .ok (.getfield 80, 3) := by decide +kernel
theorem dX10_rest_4 : decode cX10_rest 4 = .ok (.ifCond .eq 10, 3) := by decide +kernel
theorem dX10_rest_14 : decode cX10_rest 14 = .ok (.iconst (-1), 1) := by decide +kernel
theorem dX10_rest_15 : decode cX10_rest 15 = .ok (.ireturn, 1) := by decide +kernel
theorem dX10_tuning_0 : decode cX10_tuning 0 = .ok (.iload_n 1, 1) := by decide +kernel
theorem dX10_tuning_1 : decode cX10_tuning 1 = .ok (.iconst 3, 1) := by decide +kernel
theorem dX10_tuning_2 : decode cX10_tuning 2 = .ok (.invokestatic 90, 3) := by decide +kernel
theorem dX10_tuning_5 : decode cX10_tuning 5 = .ok (.ifCond .eq 14, 3) := by decide +kernel
theorem dX10_tuning_8 : decode cX10_tuning 8 = .ok (.aload_n 0, 1) := by decide +kernel
theorem dX10_tuning_9 : decode cX10_tuning 9 = .ok (.getfield 10, 3) := by decide +kernel
theorem dX10_tuning_12 : decode cX10_tuning 12 = .ok (.iload_n 2, 1) := by decide +kernel
theorem dX10_tuning_13 : decode cX10_tuning 13 = .ok (.invokevirtual 107, 3) := by decide +kernel
theorem dX10_tuning_16 : decode cX10_tuning 16 = .ok (.ifCond .ne 5, 3) := by decide +kernel
theorem dX10_tuning_19 : decode cX10_tuning 19 = .ok (.iconst (-1), 1) := by decide +kernel
theorem dX10_tuning_20 : decode cX10_tuning 20 = .ok (.ireturn, 1) := by decide +kernel
theorem dX10_choose_0 : decode cX10_choose 0 = .ok (.aload_n 0, 1) := by decide +kernel
theorem dX10_choose_1 : decode cX10_choose 1 = .ok (.getfield 19, 3) := by decide +kernel
theorem dX10_choose_4 : decode cX10_choose 4 = .ok (.getfield 94, 3) := by decide +kernel
theorem dX10_choose_7 : decode cX10_choose 7 = .ok (.ifCond .ne 6, 3) := by decide +kernel
theorem dX10_choose_10 : decode cX10_choose 10 = .ok (.bipush (-3), 2) := by decide +kernel
theorem dX10_choose_12 : decode cX10_choose 12 = .ok (.ireturn, 1) := by decide +kernel
theorem dX10_feed_0 : decode cX10_feed 0 = .ok (.iload_n 1, 1) := by decide +kernel
theorem dX10_feed_1 : decode cX10_feed 1 = .ok (.sipush 255, 3) := by decide +kernel
theorem dX10_feed_4 : decode cX10_feed 4 = .ok (.invokestatic 90, 3) := by decide +kernel
theorem dX10_feed_7 : decode cX10_feed 7 = .ok (.ifCond .ne 6, 3) := by decide +kernel
theorem dX10_feed_10 : decode cX10_feed 10 = .ok (.bipush (-2), 2) := by decide +kernel
theorem dX10_feed_12 : decode cX10_feed 12 = .ok (.ireturn, 1) := by decide +kernel
theorem dX10_feed_13 : decode cX10_feed 13 = .ok (.aload_n 0, 1) := by decide +kernel
theorem dX10_feed_14 : decode cX10_feed 14 = .ok (.getfield 26, 3) := by decide +kernel
theorem dX10_feed_17 : decode cX10_feed 17 = .ok (.getfield 283, 3) := by decide +kernel
theorem dX10_feed_20 : decode cX10_feed 20 = .ok (.sipush 600, 3) := by decide +kernel
theorem dX10_feed_23 : decode cX10_feed 23 = .ok (.if_icmp .lt 6, 3) := by decide +kernel
theorem dX10_feed_29 : decode cX10_feed 29 = .ok (.aload_n 0, 1) := by decide +kernel
theorem dX10_feed_30 : decode cX10_feed 30 = .ok (.getfield 26, 3) := by decide +kernel
theorem dX10_feed_33 : decode cX10_feed 33 = .ok (.iload_n 1, 1) := by decide +kernel
theorem dX10_feed_34 : decode cX10_feed 34 = .ok (.invokevirtual 286, 3) := by decide +kernel
theorem dX10_feed_37 : decode cX10_feed 37 = .ok (.aload_n 0, 1) := by decide +kernel
theorem dX10_feed_38 : decode cX10_feed 38 = .ok (.getfield 26, 3) := by decide +kernel
theorem dX10_feed_41 : decode cX10_feed 41 = .ok (.getfield 283, 3) := by decide +kernel
theorem dX10_feed_44 : decode cX10_feed 44 = .ok (.ireturn, 1) := by decide +kernel
theorem dX10_wipe_0 : decode cX10_wipe 0 = .ok (.aload_n 0, 1) := by decide +kernel
theorem dX10_wipe_1 : decode cX10_wipe 1 = .ok (.getfield 26, 3) := by decide +kernel
theorem dX10_wipe_4 : decode cX10_wipe 4 = .ok (.getfield 283, 3) := by decide +kernel
theorem dX10_wipe_7 : decode cX10_wipe 7 = .ok (.istore_n 1, 1) := by decide +kernel
theorem dX10_wipe_8 : decode cX10_wipe 8 = .ok (.aload_n 0, 1) := by decide +kernel
theorem dX10_wipe_9 : decode cX10_wipe 9 = .ok (.getfield 26, 3) := by decide +kernel
theorem dX10_wipe_12 : decode cX10_wipe 12 = .ok (.iconst 0, 1) := by decide +kernel
theorem dX10_wipe_13 : decode cX10_wipe 13 = .ok (.putfield 283, 3) := by decide +kernel
theorem dX10_wipe_16 : decode cX10_wipe 16 = .ok (.iload_n 1, 1) := by decide +kernel
theorem dX10_wipe_17 : decode cX10_wipe 17 = .ok (.ireturn, 1) := by decide +kernel
theorem dX10_tape_0 : decode cX10_tape 0 = .ok (.iload_n 1, 1) := by decide +kernel
theorem dX10_tape_1 : decode cX10_tape 1 = .ok (.ifCond .lt 26, 3) := by decide +kernel
theorem dX10_tape_4 : decode cX10_tape 4 = .ok (.iload_n 1, 1) := by decide +kernel
theorem dX10_tape_5 : decode cX10_tape 5 = .ok (.aload_n 0, 1) := by decide +kernel
theorem dX10_tape_6 : decode cX10_tape 6 = .ok (.getfield 26, 3) := by decide +kernel
theorem dX10_tape_9 : decode cX10_tape 9 = .ok (.getfield 283, 3) := by decide +kernel
theorem dX10_tape_12 : decode cX10_tape 12 = .ok (.if_icmp .ge 15, 3) := by decide +kernel
theorem dX10_tape_27 : decode cX10_tape 27 = .ok (.iconst (-1), 1) := by decide +kernel
theorem dX10_tape_28 : decode cX10_tape 28 = .ok (.ireturn, 1) := by decide +kernel
theorem dX10_write_0 : decode cX10_write 0 = .ok (.aload_n 0, 1) := by decide +kernel
theorem dX10_write_1 : decode cX10_write 1 = .ok (.getfield 61, 3) := by decide +kernel
theorem dX10_write_4 : decode cX10_write 4 = .ok (.invokevirtual 214, 3) := by decide +kernel
theorem dX10_write_7 : decode cX10_write 7 = .ok (.ifCond .ne 6, 3) := by decide +kernel
theorem dX10_write_10 : decode cX10_write 10 = .ok (.bipush (-3), 2) := by decide +kernel
theorem dX10_write_12 : decode cX10_write 12 = .ok (.ireturn, 1) := by decide +kernel
theorem dX10_read_0 : decode cX10_read 0 = .ok (.aload_n 0, 1) := by decide +kernel
theorem dX10_read_1 : decode cX10_read 1 = .ok (.getfield 10, 3) := by decide +kernel
theorem dX10_read_4 : decode cX10_read 4 = .ok (.getfield 97, 3) := by decide +kernel
theorem dX10_read_7 : decode cX10_read 7 = .ok (.ifCond .ne 6, 3) := by decide +kernel
theorem dX10_read_10 : decode cX10_read 10 = .ok (.bipush (-3), 2) := by decide +kernel
theorem dX10_read_12 : decode cX10_read 12 = .ok (.ireturn, 1) := by decide +kernel
theorem dX10_count_0 : decode cX10_count 0 = .ok (.iload_n 1, 1) := by decide +kernel
theorem dX10_count_1 : decode cX10_count 1 = .ok (.tableswitch 103 0 5 #[39, 47, 55, 63, 79, 95], 39) := by decide +kernel
theorem dX10_count_40 : decode cX10_count 40 = .ok (.aload_n 0, 1) := by decide +kernel
theorem dX10_count_41 : decode cX10_count 41 = .ok (.getfield 10, 3) := by decide +kernel
theorem dX10_count_44 : decode cX10_count 44 = .ok (.getfield 97, 3) := by decide +kernel
theorem dX10_count_47 : decode cX10_count 47 = .ok (.ireturn, 1) := by decide +kernel
theorem dX10_count_48 : decode cX10_count 48 = .ok (.aload_n 0, 1) := by decide +kernel
theorem dX10_count_49 : decode cX10_count 49 = .ok (.getfield 19, 3) := by decide +kernel
theorem dX10_count_52 : decode cX10_count 52 = .ok (.getfield 94, 3) := by decide +kernel
theorem dX10_count_55 : decode cX10_count 55 = .ok (.ireturn, 1) := by decide +kernel
theorem dX10_count_56 : decode cX10_count 56 = .ok (.aload_n 0, 1) := by decide +kernel
theorem dX10_count_57 : decode cX10_count 57 = .ok (.getfield 19, 3) := by decide +kernel
theorem dX10_count_60 : decode cX10_count 60 = .ok (.invokevirtual 308, 3) := by decide +kernel
theorem dX10_count_63 : decode cX10_count 63 = .ok (.ireturn, 1) := by decide +kernel
theorem dX10_count_64 : decode cX10_count 64 = .ok (.aload_n 0, 1) := by decide +kernel
theorem dX10_count_65 : decode cX10_count 65 = .ok (.getfield 19, 3) := by decide +kernel
theorem dX10_count_68 : decode cX10_count 68 = .ok (.getfield 136, 3) := by decide +kernel
theorem dX10_count_71 : decode cX10_count 71 = .ok (.aload_n 0, 1) := by decide +kernel
theorem dX10_count_72 : decode cX10_count 72 = .ok (.getfield 19, 3) := by decide +kernel
theorem dX10_count_75 : decode cX10_count 75 = .ok (.getfield 94, 3) := by decide +kernel
theorem dX10_count_78 : decode cX10_count 78 = .ok (.iaload, 1) := by decide +kernel
theorem dX10_count_79 : decode cX10_count 79 = .ok (.ireturn, 1) := by decide +kernel
theorem dX10_count_80 : decode cX10_count 80 = .ok (.aload_n 0, 1) := by decide +kernel
theorem dX10_count_81 : decode cX10_count 81 = .ok (.getfield 61, 3) := by decide +kernel
theorem dX10_count_84 : decode cX10_count 84 = .ok (.invokevirtual 214, 3) := by decide +kernel
theorem dX10_count_87 : decode cX10_count 87 = .ok (.ifCond .eq 7, 3) := by decide +kernel
theorem dX10_count_94 : decode cX10_count 94 = .ok (.iconst 0, 1) := by decide +kernel
theorem dX10_count_95 : decode cX10_count 95 = .ok (.ireturn, 1) := by decide +kernel
theorem dX10_count_96 : decode cX10_count 96 = .ok (.aload_n 0, 1) := by decide +kernel
theorem dX10_count_97 : decode cX10_count 97 = .ok (.getfield 61, 3) := by decide +kernel
theorem dX10_count_100 : decode cX10_count 100 = .ok (.getfield 228, 3) := by decide +kernel
theorem dX10_count_103 : decode cX10_count 103 = .ok (.ireturn, 1) := by decide +kernel
theorem dX10_count_104 : decode cX10_count 104 = .ok (.iconst (-1), 1) := by decide +kernel
theorem dX10_count_105 : decode cX10_count 105 = .ok (.ireturn, 1) := by decide +kernel
theorem dX10_within_0 : decode cX10_within 0 = .ok (.iload_n 0, 1) := by decide +kernel
theorem dX10_within_1 : decode cX10_within 1 = .ok (.ifCond .lt 12, 3) := by decide +kernel
theorem dX10_within_4 : decode cX10_within 4 = .ok (.iload_n 0, 1) := by decide +kernel
theorem dX10_within_5 : decode cX10_within 5 = .ok (.iload_n 1, 1) := by decide +kernel
theorem dX10_within_6 : decode cX10_within 6 = .ok (.if_icmp .gt 7, 3) := by decide +kernel
theorem dX10_within_9 : decode cX10_within 9 = .ok (.iconst 1, 1) := by decide +kernel
theorem dX10_within_10 : decode cX10_within 10 = .ok (.goto 4, 3) := by decide +kernel
theorem dX10_within_13 : decode cX10_within 13 = .ok (.iconst 0, 1) := by decide +kernel
theorem dX10_within_14 : decode cX10_within 14 = .ok (.ireturn, 1) := by decide +kernel
theorem dX10_exchange_0 : decode cX10_exchange 0 = .ok (.aload_n 0, 1) := by decide +kernel
theorem dX10_exchange_1 : decode cX10_exchange 1 = .ok (.iload_n 1, 1) := by decide +kernel
theorem dX10_exchange_2 : decode cX10_exchange 2 = .ok (.iaload, 1) := by decide +kernel
theorem dX10_exchange_3 : decode cX10_exchange 3 = .ok (.istore_n 3, 1) := by decide +kernel
theorem dX10_exchange_4 : decode cX10_exchange 4 = .ok (.aload_n 0, 1) := by decide +kernel
theorem dX10_exchange_5 : decode cX10_exchange 5 = .ok (.iload_n 1, 1) := by decide +kernel
theorem dX10_exchange_6 : decode cX10_exchange 6 = .ok (.iload_n 2, 1) := by decide +kernel
theorem dX10_exchange_7 : decode cX10_exchange 7 = .ok (.iastore, 1) := by decide +kernel
theorem dX10_exchange_8 : decode cX10_exchange 8 = .ok (.iload_n 3, 1) := by decide +kernel
theorem dX10_exchange_9 : decode cX10_exchange 9 = .ok (.ireturn, 1) := by decide +kernel
theorem dX10_instrumentChanged_0 : decode cX10_instrumentChanged 0 = .ok (.aload_n 0, 1) := by decide +kernel
theorem dX10_instrumentChanged_1 : decode cX10_instrumentChanged 1 = .ok (.invokevirtual 143, 3) := by decide +kernel
theorem dX10_instrumentChanged_4 : decode cX10_instrumentChanged 4 = .ok (.aload_n 0, 1) := by decide +kernel
theorem dX10_instrumentChanged_5 : decode cX10_instrumentChanged 5 = .ok (.getfield 44, 3) := by decide +kernel
theorem dX10_instrumentChanged_8 : decode cX10_instrumentChanged 8 = .ok (.invokevirtual 157, 3) := by decide +kernel
theorem dX10_instrumentChanged_11 : decode cX10_instrumentChanged 11 = .ok (.return_, 1) := by decide +kernel
theorem dX10_forgetAnswers_0 : decode cX10_forgetAnswers 0 = .ok (.aload_n 0, 1) := by decide +kernel
theorem dX10_forgetAnswers_1 : decode cX10_forgetAnswers 1 = .ok (.getfield 61, 3) := by decide +kernel
theorem dX10_forgetAnswers_4 : decode cX10_forgetAnswers 4 = .ok (.invokevirtual 311, 3) := by decide +kernel
theorem dX10_forgetAnswers_7 : decode cX10_forgetAnswers 7 = .ok (.aload_n 0, 1) := by decide +kernel
theorem dX10_forgetAnswers_8 : decode cX10_forgetAnswers 8 = .ok (.iconst 0, 1) := by decide +kernel
theorem dX10_forgetAnswers_9 : decode cX10_forgetAnswers 9 = .ok (.putfield 80, 3) := by decide +kernel
theorem dX10_forgetAnswers_12 : decode cX10_forgetAnswers 12 = .ok (.return_, 1) := by decide +kernel
theorem dX11_init_0 : decode cX11_init 0 = .ok (.aload_n 0, 1) := by decide +kernel
theorem dX11_init_1 : decode cX11_init 1 = .ok (.invokespecial 1, 3) := by decide +kernel
theorem dX11_init_4 : decode cX11_init 4 = .ok (.aload_n 0, 1) := by decide +kernel
theorem dX11_init_5 : decode cX11_init 5 = .ok (.iconst 0, 1) := by decide +kernel
theorem dX11_init_6 : decode cX11_init 6 = .ok (.putfield 7, 3) := by decide +kernel
theorem dX11_init_9 : decode cX11_init 9 = .ok (.aload_n 0, 1) := by decide +kernel
theorem dX11_init_10 : decode cX11_init 10 = .ok (.iconst 0, 1) := by decide +kernel
theorem dX11_init_11 : decode cX11_init 11 = .ok (.putfield 13, 3) := by decide +kernel
theorem dX11_init_14 : decode cX11_init 14 = .ok (.aload_n 0, 1) := by decide +kernel
theorem dX11_init_15 : decode cX11_init 15 = .ok (.bipush 6, 2) := by decide +kernel
theorem dX11_init_17 : decode cX11_init 17 = .ok (.newarray .int, 2) := by decide +kernel
theorem dX11_init_19 : decode cX11_init 19 = .ok (.putfield 16, 3) := by decide +kernel
theorem dX11_init_22 : decode cX11_init 22 = .ok (.aload_n 0, 1) := by decide +kernel
theorem dX11_init_23 : decode cX11_init 23 = .ok (.bipush 6, 2) := by decide +kernel
theorem dX11_init_25 : decode cX11_init 25 = .ok (.newarray .int, 2) := by decide +kernel
theorem dX11_init_27 : decode cX11_init 27 = .ok (.putfield 20, 3) := by decide +kernel
theorem dX11_init_30 : decode cX11_init 30 = .ok (.aload_n 0, 1) := by decide +kernel
theorem dX11_init_31 : decode cX11_init 31 = .ok (.iconst 5, 1) := by decide +kernel
theorem dX11_init_32 : decode cX11_init 32 = .ok (.newarray .int, 2) := by decide +kernel
theorem dX11_init_34 : decode cX11_init 34 = .ok (.dup, 1) := by decide +kernel
theorem dX11_init_35 : decode cX11_init 35 = .ok (.iconst 0, 1) := by decide +kernel
theorem dX11_init_36 : decode cX11_init 36 = .ok (.iconst 0, 1) := by decide +kernel
theorem dX11_init_37 : decode cX11_init 37 = .ok (.iastore, 1) := by decide +kernel
theorem dX11_init_38 : decode cX11_init 38 = .ok (.dup, 1) := by decide +kernel
theorem dX11_init_39 : decode cX11_init 39 = .ok (.iconst 1, 1) := by decide +kernel
theorem dX11_init_40 : decode cX11_init 40 = .ok (.iconst 1, 1) := by decide +kernel
theorem dX11_init_41 : decode cX11_init 41 = .ok (.iastore, 1) := by decide +kernel
theorem dX11_init_42 : decode cX11_init 42 = .ok (.dup, 1) := by decide +kernel
theorem dX11_init_43 : decode cX11_init 43 = .ok (.iconst 2, 1) := by decide +kernel
theorem dX11_init_44 : decode cX11_init 44 = .ok (.iconst 1, 1) := by decide +kernel
theorem dX11_init_45 : decode cX11_init 45 = .ok (.iastore, 1) := by decide +kernel
theorem dX11_init_46 : decode cX11_init 46 = .ok (.dup, 1) := by decide +kernel
theorem dX11_init_47 : decode cX11_init 47 = .ok (.iconst 3, 1) := by decide +kernel
theorem dX11_init_48 : decode cX11_init 48 = .ok (.iconst 1, 1) := by decide +kernel
theorem dX11_init_49 : decode cX11_init 49 = .ok (.iastore, 1) := by decide +kernel
theorem dX11_init_50 : decode cX11_init 50 = .ok (.dup, 1) := by decide +kernel
theorem dX11_init_51 : decode cX11_init 51 = .ok (.iconst 4, 1) := by decide +kernel
theorem dX11_init_52 : decode cX11_init 52 = .ok (.iconst 1, 1) := by decide +kernel
theorem dX11_init_53 : decode cX11_init 53 = .ok (.iastore, 1) := by decide +kernel
theorem dX11_init_54 : decode cX11_init 54 = .ok (.putfield 23, 3) := by decide +kernel
theorem dX11_init_57 : decode cX11_init 57 = .ok (.aload_n 0, 1) := by decide +kernel
theorem dX11_init_58 : decode cX11_init 58 = .ok (.iconst 5, 1) := by decide +kernel
theorem dX11_init_59 : decode cX11_init 59 = .ok (.newarray .int, 2) := by decide +kernel
theorem dX11_init_61 : decode cX11_init 61 = .ok (.dup, 1) := by decide +kernel
theorem dX11_init_62 : decode cX11_init 62 = .ok (.iconst 0, 1) := by decide +kernel
theorem dX11_init_63 : decode cX11_init 63 = .ok (.iconst 1, 1) := by decide +kernel
theorem dX11_init_64 : decode cX11_init 64 = .ok (.iastore, 1) := by decide +kernel
theorem dX11_init_65 : decode cX11_init 65 = .ok (.dup, 1) := by decide +kernel
theorem dX11_init_66 : decode cX11_init 66 = .ok (.iconst 1, 1) := by decide +kernel
theorem dX11_init_67 : decode cX11_init 67 = .ok (.iconst 1, 1) := by decide +kernel
theorem dX11_init_68 : decode cX11_init 68 = .ok (.iastore, 1) := by decide +kernel
theorem dX11_init_69 : decode cX11_init 69 = .ok (.dup, 1) := by decide +kernel
theorem dX11_init_70 : decode cX11_init 70 = .ok (.iconst 2, 1) := by decide +kernel
theorem dX11_init_71 : decode cX11_init 71 = .ok (.iconst 1, 1) := by decide +kernel
theorem dX11_init_72 : decode cX11_init 72 = .ok (.iastore, 1) := by decide +kernel
theorem dX11_init_73 : decode cX11_init 73 = .ok (.dup, 1) := by decide +kernel
theorem dX11_init_74 : decode cX11_init 74 = .ok (.iconst 3, 1) := by decide +kernel
theorem dX11_init_75 : decode cX11_init 75 = .ok (.iconst 1, 1) := by decide +kernel
theorem dX11_init_76 : decode cX11_init 76 = .ok (.iastore, 1) := by decide +kernel
theorem dX11_init_77 : decode cX11_init 77 = .ok (.dup, 1) := by decide +kernel
theorem dX11_init_78 : decode cX11_init 78 = .ok (.iconst 4, 1) := by decide +kernel
theorem dX11_init_79 : decode cX11_init 79 = .ok (.iconst 1, 1) := by decide +kernel
theorem dX11_init_80 : decode cX11_init 80 = .ok (.iastore, 1) := by decide +kernel
theorem dX11_init_81 : decode cX11_init 81 = .ok (.putfield 26, 3) := by decide +kernel
theorem dX11_init_84 : decode cX11_init 84 = .ok (.aload_n 0, 1) := by decide +kernel
theorem dX11_init_85 : decode cX11_init 85 = .ok (.bipush 24, 2) := by decide +kernel
theorem dX11_init_87 : decode cX11_init 87 = .ok (.newarray .int, 2) := by decide +kernel
theorem dX11_init_89 : decode cX11_init 89 = .ok (.putfield 29, 3) := by decide +kernel
theorem dX11_init_92 : decode cX11_init 92 = .ok (.aload_n 0, 1) := by decide +kernel
theorem dX11_init_93 : decode cX11_init 93 = .ok (.iconst 0, 1) := by decide +kernel
theorem dX11_init_94 : decode cX11_init 94 = .ok (.putfield 32, 3) := by decide +kernel
theorem dX11_init_97 : decode cX11_init 97 = .ok (.aload_n 0, 1) := by decide +kernel
theorem dX11_init_98 : decode cX11_init 98 = .ok (.iconst 0, 1) := by decide +kernel
theorem dX11_init_99 : decode cX11_init 99 = .ok (.putfield 35, 3) := by decide +kernel
theorem dX11_init_102 : decode cX11_init 102 = .ok (.aload_n 0, 1) := by decide +kernel
theorem dX11_init_103 : decode cX11_init 103 = .ok (.bipush 17, 2) := by decide +kernel
theorem dX11_init_105 : decode cX11_init 105 = .ok (.newarray .int, 2) := by decide +kernel
theorem dX11_init_107 : decode cX11_init 107 = .ok (.putfield 38, 3) := by decide +kernel
theorem dX11_init_110 : decode cX11_init 110 = .ok (.aload_n 0, 1) := by decide +kernel
theorem dX11_init_111 : decode cX11_init 111 = .ok (.bipush 68, 2) := by decide +kernel
theorem dX11_init_113 : decode cX11_init 113 = .ok (.newarray .int, 2) := by decide +kernel
theorem dX11_init_115 : decode cX11_init 115 = .ok (.putfield 41, 3) := by decide +kernel
theorem dX11_init_118 : decode cX11_init 118 = .ok (.aload_n 0, 1) := by decide +kernel
theorem dX11_init_119 : decode cX11_init 119 = .ok (.bipush 68, 2) := by decide +kernel
theorem dX11_init_121 : decode cX11_init 121 = .ok (.newarray .int, 2) := by decide +kernel
theorem dX11_init_123 : decode cX11_init 123 = .ok (.putfield 44, 3) := by decide +kernel
theorem dX11_init_126 : decode cX11_init 126 = .ok (.aload_n 0, 1) := by decide +kernel
theorem dX11_init_127 : decode cX11_init 127 = .ok (.bipush 68, 2) := by decide +kernel
theorem dX11_init_129 : decode cX11_init 129 = .ok (.newarray .int, 2) := by decide +kernel
theorem dX11_init_131 : decode cX11_init 131 = .ok (.putfield 47, 3) := by decide +kernel
theorem dX11_init_134 : decode cX11_init 134 = .ok (.aload_n 0, 1) := by decide +kernel
theorem dX11_init_135 : decode cX11_init 135 = .ok (.bipush 68, 2) := by decide +kernel
theorem dX11_init_137 : decode cX11_init 137 = .ok (.newarray .int, 2) := by decide +kernel
theorem dX11_init_139 : decode cX11_init 139 = .ok (.putfield 50, 3) := by decide +kernel
theorem dX11_init_142 : decode cX11_init 142 = .ok (.aload_n 0, 1) := by decide +kernel
theorem dX11_init_143 : decode cX11_init 143 = .ok (.iconst 0, 1) := by decide +kernel
theorem dX11_init_144 : decode cX11_init 144 = .ok (.putfield 53, 3) := by decide +kernel
theorem dX11_init_147 : decode cX11_init 147 = .ok (.aload_n 0, 1) := by decide +kernel
theorem dX11_init_148 : decode cX11_init 148 = .ok (.iconst 0, 1) := by decide +kernel
theorem dX11_init_149 : decode cX11_init 149 = .ok (.putfield 57, 3) := by decide +kernel
theorem dX11_init_152 : decode cX11_init 152 = .ok (.aload_n 0, 1) := by decide +kernel
theorem dX11_init_153 : decode cX11_init 153 = .ok (.sipush 256, 3) := by decide +kernel
theorem dX11_init_156 : decode cX11_init 156 = .ok (.newarray .int, 2) := by decide +kernel
theorem dX11_init_158 : decode cX11_init 158 = .ok (.putfield 60, 3) := by decide +kernel
theorem dX11_init_161 : decode cX11_init 161 = .ok (.aload_n 0, 1) := by decide +kernel
theorem dX11_init_162 : decode cX11_init 162 = .ok (.sipush 8192, 3) := by decide +kernel
theorem dX11_init_165 : decode cX11_init 165 = .ok (.newarray .int, 2) := by decide +kernel
theorem dX11_init_167 : decode cX11_init 167 = .ok (.putfield 63, 3) := by decide +kernel
theorem dX11_init_170 : decode cX11_init 170 = .ok (.aload_n 0, 1) := by decide +kernel
theorem dX11_init_171 : decode cX11_init 171 = .ok (.sipush 8192, 3) := by decide +kernel
theorem dX11_init_174 : decode cX11_init 174 = .ok (.newarray .int, 2) := by decide +kernel
theorem dX11_init_176 : decode cX11_init 176 = .ok (.putfield 66, 3) := by decide +kernel
theorem dX11_init_179 : decode cX11_init 179 = .ok (.aload_n 0, 1) := by decide +kernel
theorem dX11_init_180 : decode cX11_init 180 = .ok (.sipush 8192, 3) := by decide +kernel
theorem dX11_init_183 : decode cX11_init 183 = .ok (.newarray .int, 2) := by decide +kernel
theorem dX11_init_185 : decode cX11_init 185 = .ok (.putfield 69, 3) := by decide +kernel
theorem dX11_init_188 : decode cX11_init 188 = .ok (.aload_n 0, 1) := by decide +kernel
theorem dX11_init_189 : decode cX11_init 189 = .ok (.ldc 72, 2) := by decide +kernel
theorem dX11_init_191 : decode cX11_init 191 = .ok (.newarray .int, 2) := by decide +kernel
theorem dX11_init_193 : decode cX11_init 193 = .ok (.putfield 73, 3) := by decide +kernel
theorem dX11_init_196 : decode cX11_init 196 = .ok (.aload_n 0, 1) := by decide +kernel
theorem dX11_init_197 : decode cX11_init 197 = .ok (.ldc 72, 2) := by decide +kernel
theorem dX11_init_199 : decode cX11_init 199 = .ok (.newarray .int, 2) := by decide +kernel
theorem dX11_init_201 : decode cX11_init 201 = .ok (.putfield 76, 3) := by decide +kernel
theorem dX11_init_204 : decode cX11_init 204 = .ok (.aload_n 0, 1) := by decide +kernel
theorem dX11_init_205 : decode cX11_init 205 = .ok (.iconst 4, 1) := by decide +kernel
theorem dX11_init_206 : decode cX11_init 206 = .ok (.newarray .int, 2) := by decide +kernel
theorem dX11_init_208 : decode cX11_init 208 = .ok (.putfield 79, 3) := by decide +kernel
theorem dX11_init_211 : decode cX11_init 211 = .ok (.aload_n 0, 1) := by decide +kernel
theorem dX11_init_212 : decode cX11_init 212 = .ok (.bipush 16, 2) := by decide +kernel
theorem dX11_init_214 : decode cX11_init 214 = .ok (.newarray .int, 2) := by decide +kernel
theorem dX11_init_216 : decode cX11_init 216 = .ok (.putfield 82, 3) := by decide +kernel
theorem dX11_init_219 : decode cX11_init 219 = .ok (.aload_n 0, 1) := by decide +kernel
theorem dX11_init_220 : decode cX11_init 220 = .ok (.sipush 6656, 3) := by decide +kernel
theorem dX11_init_223 : decode cX11_init 223 = .ok (.newarray .int, 2) := by decide +kernel
theorem dX11_init_225 : decode cX11_init 225 = .ok (.putfield 85, 3) := by decide +kernel
theorem dX11_init_228 : decode cX11_init 228 = .ok (.aload_n 0, 1) := by decide +kernel
theorem dX11_init_229 : decode cX11_init 229 = .ok (.ldc 88, 2) := by decide +kernel
theorem dX11_init_231 : decode cX11_init 231 = .ok (.newarray .int, 2) := by decide +kernel
theorem dX11_init_233 : decode cX11_init 233 = .ok (.putfield 89, 3) := by decide +kernel
theorem dX11_init_236 : decode cX11_init 236 = .ok (.aload_n 0, 1) := by decide +kernel
theorem dX11_init_237 : decode cX11_init 237 = .ok (.ldc 88, 2) := by decide +kernel
theorem dX11_init_239 : decode cX11_init 239 = .ok (.newarray .int, 2) := by decide +kernel
theorem dX11_init_241 : decode cX11_init 241 = .ok (.putfield 92, 3) := by decide +kernel
theorem dX11_init_244 : decode cX11_init 244 = .ok (.aload_n 0, 1) := by decide +kernel
theorem dX11_init_245 : decode cX11_init 245 = .ok (.ldc 88, 2) := by decide +kernel
theorem dX11_init_247 : decode cX11_init 247 = .ok (.newarray .int, 2) := by decide +kernel
theorem dX11_init_249 : decode cX11_init 249 = .ok (.putfield 95, 3) := by decide +kernel
theorem dX11_init_252 : decode cX11_init 252 = .ok (.aload_n 0, 1) := by decide +kernel
theorem dX11_init_253 : decode cX11_init 253 = .ok (.bipush 32, 2) := by decide +kernel
theorem dX11_init_255 : decode cX11_init 255 = .ok (.newarray .int, 2) := by decide +kernel
theorem dX11_init_257 : decode cX11_init 257 = .ok (.putfield 98, 3) := by decide +kernel
theorem dX11_init_260 : decode cX11_init 260 = .ok (.aload_n 0, 1) := by decide +kernel
theorem dX11_init_261 : decode cX11_init 261 = .ok (.bipush 16, 2) := by decide +kernel
theorem dX11_init_263 : decode cX11_init 263 = .ok (.newarray .int, 2) := by decide +kernel
theorem dX11_init_265 : decode cX11_init 265 = .ok (.putfield 101, 3) := by decide +kernel
theorem dX11_init_268 : decode cX11_init 268 = .ok (.aload_n 0, 1) := by decide +kernel
theorem dX11_init_269 : decode cX11_init 269 = .ok (.iconst 0, 1) := by decide +kernel
theorem dX11_init_270 : decode cX11_init 270 = .ok (.putfield 104, 3) := by decide +kernel
theorem dX11_init_273 : decode cX11_init 273 = .ok (.aload_n 0, 1) := by decide +kernel
theorem dX11_init_274 : decode cX11_init 274 = .ok (.sipush 512, 3) := by decide +kernel
theorem dX11_init_277 : decode cX11_init 277 = .ok (.newarray .boolean, 2) := by decide +kernel
theorem dX11_init_279 : decode cX11_init 279 = .ok (.putfield 107, 3) := by decide +kernel
theorem dX11_init_282 : decode cX11_init 282 = .ok (.aload_n 0, 1) := by decide +kernel
theorem dX11_init_283 : decode cX11_init 283 = .ok (.bipush 16, 2) := by decide +kernel
theorem dX11_init_285 : decode cX11_init 285 = .ok (.newarray .int, 2) := by decide +kernel
theorem dX11_init_287 : decode cX11_init 287 = .ok (.putfield 111, 3) := by decide +kernel
theorem dX11_init_290 : decode cX11_init 290 = .ok (.aload_n 0, 1) := by decide +kernel
theorem dX11_init_291 : decode cX11_init 291 = .ok (.iconst 0, 1) := by decide +kernel
theorem dX11_init_292 : decode cX11_init 292 = .ok (.putfield 114, 3) := by decide +kernel
theorem dX11_init_295 : decode cX11_init 295 = .ok (.aload_n 0, 1) := by decide +kernel
theorem dX11_init_296 : decode cX11_init 296 = .ok (.iconst 0, 1) := by decide +kernel
theorem dX11_init_297 : decode cX11_init 297 = .ok (.putfield 117, 3) := by decide +kernel
theorem dX11_init_300 : decode cX11_init 300 = .ok (.aload_n 0, 1) := by decide +kernel
theorem dX11_init_301 : decode cX11_init 301 = .ok (.bipush 16, 2) := by decide +kernel
theorem dX11_init_303 : decode cX11_init 303 = .ok (.newarray .int, 2) := by decide +kernel
theorem dX11_init_305 : decode cX11_init 305 = .ok (.putfield 120, 3) := by decide +kernel
theorem dX11_init_308 : decode cX11_init 308 = .ok (.aload_n 0, 1) := by decide +kernel
theorem dX11_init_309 : decode cX11_init 309 = .ok (.iconst 0, 1) := by decide +kernel
theorem dX11_init_310 : decode cX11_init 310 = .ok (.putfield 123, 3) := by decide +kernel
theorem dX11_init_313 : decode cX11_init 313 = .ok (.aload_n 0, 1) := by decide +kernel
theorem dX11_init_314 : decode cX11_init 314 = .ok (.sipush 8192, 3) := by decide +kernel
theorem dX11_init_317 : decode cX11_init 317 = .ok (.newarray .int, 2) := by decide +kernel
theorem dX11_init_319 : decode cX11_init 319 = .ok (.putfield 126, 3) := by decide +kernel
theorem dX11_init_322 : decode cX11_init 322 = .ok (.aload_n 0, 1) := by decide +kernel
theorem dX11_init_323 : decode cX11_init 323 = .ok (.bipush 16, 2) := by decide +kernel
theorem dX11_init_325 : decode cX11_init 325 = .ok (.newarray .int, 2) := by decide +kernel
theorem dX11_init_327 : decode cX11_init 327 = .ok (.putfield 129, 3) := by decide +kernel
theorem dX11_init_330 : decode cX11_init 330 = .ok (.aload_n 0, 1) := by decide +kernel
theorem dX11_init_331 : decode cX11_init 331 = .ok (.iconst 0, 1) := by decide +kernel
theorem dX11_init_332 : decode cX11_init 332 = .ok (.putfield 132, 3) := by decide +kernel
theorem dX11_init_335 : decode cX11_init 335 = .ok (.aload_n 0, 1) := by decide +kernel
theorem dX11_init_336 : decode cX11_init 336 = .ok (.bipush 6, 2) := by decide +kernel
theorem dX11_init_338 : decode cX11_init 338 = .ok (.newarray .int, 2) := by decide +kernel
theorem dX11_init_340 : decode cX11_init 340 = .ok (.putfield 135, 3) := by decide +kernel
theorem dX11_init_343 : decode cX11_init 343 = .ok (.aload_n 0, 1) := by decide +kernel
theorem dX11_init_344 : decode cX11_init 344 = .ok (.sipush 600, 3) := by decide +kernel
theorem dX11_init_347 : decode cX11_init 347 = .ok (.newarray .int, 2) := by decide +kernel
theorem dX11_init_349 : decode cX11_init 349 = .ok (.putfield 138, 3) := by decide +kernel
theorem dX11_init_352 : decode cX11_init 352 = .ok (.aload_n 0, 1) := by decide +kernel
theorem dX11_init_353 : decode cX11_init 353 = .ok (.iconst 0, 1) := by decide +kernel
theorem dX11_init_354 : decode cX11_init 354 = .ok (.putfield 141, 3) := by decide +kernel
theorem dX11_init_357 : decode cX11_init 357 = .ok (.aload_n 0, 1) := by decide +kernel
theorem dX11_init_358 : decode cX11_init 358 = .ok (.bipush 64, 2) := by decide +kernel
theorem dX11_init_360 : decode cX11_init 360 = .ok (.newarray .int, 2) := by decide +kernel
theorem dX11_init_362 : decode cX11_init 362 = .ok (.putfield 144, 3) := by decide +kernel
theorem dX11_init_365 : decode cX11_init 365 = .ok (.aload_n 0, 1) := by decide +kernel
theorem dX11_init_366 : decode cX11_init 366 = .ok (.bipush 64, 2) := by decide +kernel
theorem dX11_init_368 : decode cX11_init 368 = .ok (.newarray .int, 2) := by decide +kernel
theorem dX11_init_370 : decode cX11_init 370 = .ok (.putfield 147, 3) := by decide +kernel
theorem dX11_init_373 : decode cX11_init 373 = .ok (.aload_n 0, 1) := by decide +kernel
theorem dX11_init_374 : decode cX11_init 374 = .ok (.bipush 16, 2) := by decide +kernel
theorem dX11_init_376 : decode cX11_init 376 = .ok (.newarray .int, 2) := by decide +kernel
theorem dX11_init_378 : decode cX11_init 378 = .ok (.putfield 150, 3) := by decide +kernel
theorem dX11_init_381 : decode cX11_init 381 = .ok (.aload_n 0, 1) := by decide +kernel
theorem dX11_init_382 : decode cX11_init 382 = .ok (.iconst 0, 1) := by decide +kernel
theorem dX11_init_383 : decode cX11_init 383 = .ok (.putfield 153, 3) := by decide +kernel
theorem dX11_init_386 : decode cX11_init 386 = .ok (.return_, 1) := by decide +kernel
theorem dX11_in_0 : decode cX11_in 0 = .ok (.iload_n 1, 1) := by decide +kernel
theorem dX11_in_1 : decode cX11_in 1 = .ok (.iload_n 2, 1) := by decide +kernel
theorem dX11_in_2 : decode cX11_in 2 = .ok (.if_icmp .lt 12, 3) := by decide +kernel
theorem dX11_in_5 : decode cX11_in 5 = .ok (.iload_n 1, 1) := by decide +kernel
theorem dX11_in_6 : decode cX11_in 6 = .ok (.iload_n 3, 1) := by decide +kernel
theorem dX11_in_7 : decode cX11_in 7 = .ok (.if_icmp .gt 7, 3) := by decide +kernel
theorem dX11_in_10 : decode cX11_in 10 = .ok (.iconst 1, 1) := by decide +kernel
theorem dX11_in_11 : decode cX11_in 11 = .ok (.goto 4, 3) := by decide +kernel
theorem dX11_in_14 : decode cX11_in 14 = .ok (.iconst 0, 1) := by decide +kernel
theorem dX11_in_15 : decode cX11_in 15 = .ok (.ireturn, 1) := by decide +kernel
theorem dX11_isCourse_0 : decode cX11_isCourse 0 = .ok (.aload_n 0, 1) := by decide +kernel
theorem dX11_isCourse_1 : decode cX11_isCourse 1 = .ok (.iload_n 1, 1) := by decide +kernel
theorem dX11_isCourse_2 : decode cX11_isCourse 2 = .ok (.iconst 0, 1) := by decide +kernel
theorem dX11_isCourse_3 : decode cX11_isCourse 3 = .ok (.aload_n 0, 1) := by decide +kernel
theorem dX11_isCourse_4 : decode cX11_isCourse 4 = .ok (.getfield 7, 3) := by decide +kernel
theorem dX11_isCourse_7 : decode cX11_isCourse 7 = .ok (.iconst 1, 1) := by decide +kernel
theorem dX11_isCourse_8 : decode cX11_isCourse 8 = .ok (.isub, 1) := by decide +kernel
theorem dX11_isCourse_9 : decode cX11_isCourse 9 = .ok (.invokevirtual 156, 3) := by decide +kernel
theorem dX11_isCourse_12 : decode cX11_isCourse 12 = .ok (.ireturn, 1) := by decide +kernel
theorem dX11_isTick_0 : decode cX11_isTick 0 = .ok (.aload_n 0, 1) := by decide +kernel
theorem dX11_isTick_1 : decode cX11_isTick 1 = .ok (.iload_n 1, 1) := by decide +kernel
theorem dX11_isTick_2 : decode cX11_isTick 2 = .ok (.iconst 0, 1) := by decide +kernel
theorem dX11_isTick_3 : decode cX11_isTick 3 = .ok (.aload_n 0, 1) := by decide +kernel
theorem dX11_isTick_4 : decode cX11_isTick 4 = .ok (.getfield 32, 3) := by decide +kernel
theorem dX11_isTick_7 : decode cX11_isTick 7 = .ok (.iconst 1, 1) := by decide +kernel
theorem dX11_isTick_8 : decode cX11_isTick 8 = .ok (.isub, 1) := by decide +kernel
theorem dX11_isTick_9 : decode cX11_isTick 9 = .ok (.invokevirtual 156, 3) := by decide +kernel
theorem dX11_isTick_12 : decode cX11_isTick 12 = .ok (.ireturn, 1) := by decide +kernel
theorem dX11_isNote_0 : decode cX11_isNote 0 = .ok (.aload_n 0, 1) := by decide +kernel
theorem dX11_isNote_1 : decode cX11_isNote 1 = .ok (.iload_n 1, 1) := by decide +kernel
theorem dX11_isNote_2 : decode cX11_isNote 2 = .ok (.invokevirtual 160, 3) := by decide +kernel
theorem dX11_isNote_5 : decode cX11_isNote 5 = .ok (.ifCond .eq 24, 3) := by decide +kernel
theorem dX11_isNote_29 : decode cX11_isNote 29 = .ok (.iconst 0, 1) := by decide +kernel
theorem dX11_isNote_30 : decode cX11_isNote 30 = .ok (.ireturn, 1) := by decide +kernel
theorem dX11_forget_0 : decode cX11_forget 0 = .ok (.aload_n 0, 1) := by decide +kernel
theorem dX11_forget_1 : decode cX11_forget 1 = .ok (.iconst 0, 1) := by decide +kernel
theorem dX11_forget_2 : decode cX11_forget 2 = .ok (.putfield 53, 3) := by decide +kernel
theorem dX11_forget_5 : decode cX11_forget 5 = .ok (.aload_n 0, 1) := by decide +kernel
theorem dX11_forget_6 : decode cX11_forget 6 = .ok (.iconst 0, 1) := by decide +kernel
theorem dX11_forget_7 : decode cX11_forget 7 = .ok (.putfield 57, 3) := by decide +kernel
theorem dX11_forget_10 : decode cX11_forget 10 = .ok (.return_, 1) := by decide +kernel
theorem dX11_course_0 : decode cX11_course 0 = .ok (.aload_n 0, 1) := by decide +kernel
theorem dX11_course_1 : decode cX11_course 1 = .ok (.iload_n 1, 1) := by decide +kernel
theorem dX11_course_2 : decode cX11_course 2 = .ok (.iconst 0, 1) := by decide +kernel
theorem dX11_course_3 : decode cX11_course 3 = .ok (.bipush 99, 2) := by decide +kernel
theorem dX11_course_5 : decode cX11_course 5 = .ok (.invokevirtual 156, 3) := by decide +kernel
theorem dX11_course_8 : decode cX11_course 8 = .ok (.ifCond .eq 14, 3) := by decide +kernel
theorem dX11_course_11 : decode cX11_course 11 = .ok (.aload_n 0, 1) := by decide +kernel
theorem dX11_course_12 : decode cX11_course 12 = .ok (.iload_n 2, 1) := by decide +kernel
theorem dX11_course_13 : decode cX11_course 13 = .ok (.iconst 0, 1) := by decide +kernel
theorem dX11_course_14 : decode cX11_course 14 = .ok (.bipush 12, 2) := by decide +kernel
theorem dX11_course_16 : decode cX11_course 16 = .ok (.invokevirtual 156, 3) := by decide +kernel
theorem dX11_course_19 : decode cX11_course 19 = .ok (.ifCond .ne 6, 3) := by decide +kernel
theorem dX11_course_22 : decode cX11_course 22 = .ok (.bipush (-2), 2) := by decide +kernel
theorem dX11_course_24 : decode cX11_course 24 = .ok (.ireturn, 1) := by decide +kernel
theorem dX11_course_25 : decode cX11_course 25 = .ok (.aload_n 0, 1) := by decide +kernel
theorem dX11_course_26 : decode cX11_course 26 = .ok (.getfield 32, 3) := by decide +kernel
theorem dX11_course_29 : decode cX11_course 29 = .ok (.ifCond .le 6, 3) := by decide +kernel
theorem dX11_course_35 : decode cX11_course 35 = .ok (.aload_n 0, 1) := by decide +kernel
theorem dX11_course_36 : decode cX11_course 36 = .ok (.getfield 7, 3) := by decide +kernel
theorem dX11_course_39 : decode cX11_course 39 = .ok (.bipush 6, 2) := by decide +kernel
theorem dX11_course_41 : decode cX11_course 41 = .ok (.if_icmp .ne 6, 3) := by decide +kernel
theorem dX11_course_47 : decode cX11_course 47 = .ok (.aload_n 0, 1) := by decide +kernel
theorem dX11_course_48 : decode cX11_course 48 = .ok (.getfield 16, 3) := by decide +kernel
theorem dX11_course_51 : decode cX11_course 51 = .ok (.aload_n 0, 1) := by decide +kernel
theorem dX11_course_52 : decode cX11_course 52 = .ok (.getfield 7, 3) := by decide +kernel
theorem dX11_course_55 : decode cX11_course 55 = .ok (.iload_n 1, 1) := by decide +kernel
theorem dX11_course_56 : decode cX11_course 56 = .ok (.iastore, 1) := by decide +kernel
theorem dX11_course_57 : decode cX11_course 57 = .ok (.aload_n 0, 1) := by decide +kernel
theorem dX11_course_58 : decode cX11_course 58 = .ok (.getfield 20, 3) := by decide +kernel
theorem dX11_course_61 : decode cX11_course 61 = .ok (.aload_n 0, 1) := by decide +kernel
theorem dX11_course_62 : decode cX11_course 62 = .ok (.getfield 7, 3) := by decide +kernel
theorem dX11_course_65 : decode cX11_course 65 = .ok (.iload_n 2, 1) := by decide +kernel
theorem dX11_course_66 : decode cX11_course 66 = .ok (.iastore, 1) := by decide +kernel
theorem dX11_course_67 : decode cX11_course 67 = .ok (.iconst 0, 1) := by decide +kernel
theorem dX11_course_68 : decode cX11_course 68 = .ok (.istore_n 3, 1) := by decide +kernel
theorem dX11_course_69 : decode cX11_course 69 = .ok (.iload_n 3, 1) := by decide +kernel
theorem dX11_course_70 : decode cX11_course 70 = .ok (.iconst 4, 1) := by decide +kernel
theorem dX11_course_71 : decode cX11_course 71 = .ok (.if_icmp .ge 24, 3) := by decide +kernel
theorem dX11_course_74 : decode cX11_course 74 = .ok (.aload_n 0, 1) := by decide +kernel
theorem dX11_course_75 : decode cX11_course 75 = .ok (.getfield 29, 3) := by decide +kernel
theorem dX11_course_78 : decode cX11_course 78 = .ok (.bipush 6, 2) := by decide +kernel
theorem dX11_course_80 : decode cX11_course 80 = .ok (.iload_n 3, 1) := by decide +kernel
theorem dX11_course_81 : decode cX11_course 81 = .ok (.imul, 1) := by decide +kernel
theorem dX11_course_82 : decode cX11_course 82 = .ok (.aload_n 0, 1) := by decide +kernel
theorem dX11_course_83 : decode cX11_course 83 = .ok (.getfield 7, 3) := by decide +kernel
theorem dX11_course_86 : decode cX11_course 86 = .ok (.iadd, 1) := by decide +kernel
theorem dX11_course_87 : decode cX11_course 87 = .ok (.iload_n 1, 1) := by decide +kernel
theorem dX11_course_88 : decode cX11_course 88 = .ok (.iastore, 1) := by decide +kernel
theorem dX11_course_89 : decode cX11_course 89 = .ok (.iinc 3 1, 3) := by decide +kernel
theorem dX11_course_92 : decode cX11_course 92 = .ok (.goto (-23), 3) := by decide +kernel
theorem dX11_course_95 : decode cX11_course 95 = .ok (.aload_n 0, 1) := by decide +kernel
theorem dX11_course_96 : decode cX11_course 96 = .ok (.dup, 1) := by decide +kernel
theorem dX11_course_97 : decode cX11_course 97 = .ok (.getfield 7, 3) := by decide +kernel
theorem dX11_course_100 : decode cX11_course 100 = .ok (.iconst 1, 1) := by decide +kernel
theorem dX11_course_101 : decode cX11_course 101 = .ok (.iadd, 1) := by decide +kernel
theorem dX11_course_102 : decode cX11_course 102 = .ok (.putfield 7, 3) := by decide +kernel
theorem dX11_course_105 : decode cX11_course 105 = .ok (.aload_n 0, 1) := by decide +kernel
theorem dX11_course_106 : decode cX11_course 106 = .ok (.invokevirtual 164, 3) := by decide +kernel
theorem dX11_course_109 : decode cX11_course 109 = .ok (.aload_n 0, 1) := by decide +kernel
theorem dX11_course_110 : decode cX11_course 110 = .ok (.getfield 7, 3) := by decide +kernel
theorem dX11_course_113 : decode cX11_course 113 = .ok (.iconst 1, 1) := by decide +kernel
theorem dX11_course_114 : decode cX11_course 114 = .ok (.isub, 1) := by decide +kernel
theorem dX11_course_115 : decode cX11_course 115 = .ok (.ireturn, 1) := by decide +kernel
theorem dX11_tune_0 : decode cX11_tune 0 = .ok (.aload_n 0, 1) := by decide +kernel
theorem dX11_tune_1 : decode cX11_tune 1 = .ok (.iload_n 1, 1) := by decide +kernel
theorem dX11_tune_2 : decode cX11_tune 2 = .ok (.invokevirtual 167, 3) := by decide +kernel
theorem dX11_tune_5 : decode cX11_tune 5 = .ok (.ifCond .ne 5, 3) := by decide +kernel
theorem dX11_tune_8 : decode cX11_tune 8 = .ok (.iconst (-1), 1) := by decide +kernel
theorem dX11_tune_9 : decode cX11_tune 9 = .ok (.ireturn, 1) := by decide +kernel
theorem dX11_slack_0 : decode cX11_slack 0 = .ok (.aload_n 0, 1) := by decide +kernel
theorem dX11_slack_1 : decode cX11_slack 1 = .ok (.iload_n 1, 1) := by decide +kernel
theorem dX11_slack_2 : decode cX11_slack 2 = .ok (.iconst 1, 1) := by decide +kernel
theorem dX11_slack_3 : decode cX11_slack 3 = .ok (.iconst 4, 1) := by decide +kernel
theorem dX11_slack_4 : decode cX11_slack 4 = .ok (.invokevirtual 156, 3) := by decide +kernel
theorem dX11_slack_7 : decode cX11_slack 7 = .ok (.ifCond .ne 5, 3) := by decide +kernel
theorem dX11_slack_10 : decode cX11_slack 10 = .ok (.iconst (-1), 1) := by decide +kernel
theorem dX11_slack_11 : decode cX11_slack 11 = .ok (.ireturn, 1) := by decide +kernel
theorem dX11_slack_12 : decode cX11_slack 12 = .ok (.aload_n 0, 1) := by decide +kernel
theorem dX11_slack_13 : decode cX11_slack 13 = .ok (.iload_n 2, 1) := by decide +kernel
theorem dX11_slack_14 : decode cX11_slack 14 = .ok (.iconst 0, 1) := by decide +kernel
theorem dX11_slack_15 : decode cX11_slack 15 = .ok (.iconst 2, 1) := by decide +kernel
theorem dX11_slack_16 : decode cX11_slack 16 = .ok (.invokevirtual 156, 3) := by decide +kernel
theorem dX11_slack_19 : decode cX11_slack 19 = .ok (.ifCond .ne 6, 3) := by decide +kernel
theorem dX11_slack_22 : decode cX11_slack 22 = .ok (.bipush (-2), 2) := by decide +kernel
theorem dX11_slack_24 : decode cX11_slack 24 = .ok (.ireturn, 1) := by decide +kernel
theorem dX11_slack_25 : decode cX11_slack 25 = .ok (.aload_n 0, 1) := by decide +kernel
theorem dX11_slack_26 : decode cX11_slack 26 = .ok (.getfield 23, 3) := by decide +kernel
theorem dX11_slack_29 : decode cX11_slack 29 = .ok (.iload_n 1, 1) := by decide +kernel
theorem dX11_slack_30 : decode cX11_slack 30 = .ok (.iaload, 1) := by decide +kernel
theorem dX11_slack_31 : decode cX11_slack 31 = .ok (.istore_n 3, 1) := by decide +kernel
theorem dX11_slack_32 : decode cX11_slack 32 = .ok (.aload_n 0, 1) := by decide +kernel
theorem dX11_slack_33 : decode cX11_slack 33 = .ok (.getfield 23, 3) := by decide +kernel
theorem dX11_slack_36 : decode cX11_slack 36 = .ok (.iload_n 1, 1) := by decide +kernel
theorem dX11_slack_37 : decode cX11_slack 37 = .ok (.iload_n 2, 1) := by decide +kernel
theorem dX11_slack_38 : decode cX11_slack 38 = .ok (.iastore, 1) := by decide +kernel
theorem dX11_slack_39 : decode cX11_slack 39 = .ok (.aload_n 0, 1) := by decide +kernel
theorem dX11_slack_40 : decode cX11_slack 40 = .ok (.invokevirtual 164, 3) := by decide +kernel
theorem dX11_slack_43 : decode cX11_slack 43 = .ok (.iload_n 3, 1) := by decide +kernel
theorem dX11_slack_44 : decode cX11_slack 44 = .ok (.ireturn, 1) := by decide +kernel
theorem dX11_bars_0 : decode cX11_bars 0 = .ok (.aload_n 0, 1) := by decide +kernel
theorem dX11_bars_1 : decode cX11_bars 1 = .ok (.iload_n 1, 1) := by decide +kernel
theorem dX11_bars_2 : decode cX11_bars 2 = .ok (.iconst 0, 1) := by decide +kernel
theorem dX11_bars_3 : decode cX11_bars 3 = .ok (.iconst 1, 1) := by decide +kernel
theorem dX11_bars_4 : decode cX11_bars 4 = .ok (.invokevirtual 156, 3) := by decide +kernel
theorem dX11_bars_7 : decode cX11_bars 7 = .ok (.ifCond .ne 6, 3) := by decide +kernel
theorem dX11_bars_10 : decode cX11_bars 10 = .ok (.bipush (-2), 2) := by decide +kernel
theorem dX11_bars_12 : decode cX11_bars 12 = .ok (.ireturn, 1) := by decide +kernel
theorem dX11_bars_13 : decode cX11_bars 13 = .ok (.aload_n 0, 1) := by decide +kernel
theorem dX11_bars_14 : decode cX11_bars 14 = .ok (.getfield 13, 3) := by decide +kernel
theorem dX11_bars_17 : decode cX11_bars 17 = .ok (.istore_n 2, 1) := by decide +kernel
theorem dX11_bars_18 : decode cX11_bars 18 = .ok (.aload_n 0, 1) := by decide +kernel
theorem dX11_bars_19 : decode cX11_bars 19 = .ok (.iload_n 1, 1) := by decide +kernel
theorem dX11_bars_20 : decode cX11_bars 20 = .ok (.putfield 13, 3) := by decide +kernel
theorem dX11_bars_23 : decode cX11_bars 23 = .ok (.aload_n 0, 1) := by decide +kernel
theorem dX11_bars_24 : decode cX11_bars 24 = .ok (.invokevirtual 164, 3) := by decide +kernel
theorem dX11_bars_27 : decode cX11_bars 27 = .ok (.iload_n 2, 1) := by decide +kernel
theorem dX11_bars_28 : decode cX11_bars 28 = .ok (.ireturn, 1) := by decide +kernel
theorem dX11_weight_0 : decode cX11_weight 0 = .ok (.aload_n 0, 1) := by decide +kernel
theorem dX11_weight_1 : decode cX11_weight 1 = .ok (.iload_n 1, 1) := by decide +kernel
theorem dX11_weight_2 : decode cX11_weight 2 = .ok (.iconst 0, 1) := by decide +kernel
theorem dX11_weight_3 : decode cX11_weight 3 = .ok (.iconst 4, 1) := by decide +kernel
theorem dX11_weight_4 : decode cX11_weight 4 = .ok (.invokevirtual 156, 3) := by decide +kernel
theorem dX11_weight_7 : decode cX11_weight 7 = .ok (.ifCond .ne 5, 3) := by decide +kernel
theorem dX11_weight_10 : decode cX11_weight 10 = .ok (.iconst (-1), 1) := by decide +kernel
theorem dX11_weight_11 : decode cX11_weight 11 = .ok (.ireturn, 1) := by decide +kernel
theorem dX11_weight_12 : decode cX11_weight 12 = .ok (.aload_n 0, 1) := by decide +kernel
theorem dX11_weight_13 : decode cX11_weight 13 = .ok (.iload_n 2, 1) := by decide +kernel
theorem dX11_weight_14 : decode cX11_weight 14 = .ok (.iconst 0, 1) := by decide +kernel
theorem dX11_weight_15 : decode cX11_weight 15 = .ok (.bipush 9, 2) := by decide +kernel
theorem dX11_weight_17 : decode cX11_weight 17 = .ok (.invokevirtual 156, 3) := by decide +kernel
theorem dX11_weight_20 : decode cX11_weight 20 = .ok (.ifCond .ne 6, 3) := by decide +kernel
theorem dX11_weight_23 : decode cX11_weight 23 = .ok (.bipush (-2), 2) := by decide +kernel
theorem dX11_weight_25 : decode cX11_weight 25 = .ok (.ireturn, 1) := by decide +kernel
theorem dX11_weight_26 : decode cX11_weight 26 = .ok (.aload_n 0, 1) := by decide +kernel
theorem dX11_weight_27 : decode cX11_weight 27 = .ok (.getfield 26, 3) := by decide +kernel
theorem dX11_weight_30 : decode cX11_weight 30 = .ok (.iload_n 1, 1) := by decide +kernel
theorem dX11_weight_31 : decode cX11_weight 31 = .ok (.iaload, 1) := by decide +kernel
theorem dX11_weight_32 : decode cX11_weight 32 = .ok (.istore_n 3, 1) := by decide +kernel
theorem dX11_weight_33 : decode cX11_weight 33 = .ok (.aload_n 0, 1) := by decide +kernel
theorem dX11_weight_34 : decode cX11_weight 34 = .ok (.getfield 26, 3) := by decide +kernel
theorem dX11_weight_37 : decode cX11_weight 37 = .ok (.iload_n 1, 1) := by decide +kernel
theorem dX11_weight_38 : decode cX11_weight 38 = .ok (.iload_n 2, 1) := by decide +kernel
theorem dX11_weight_39 : decode cX11_weight 39 = .ok (.iastore, 1) := by decide +kernel
theorem dX11_weight_40 : decode cX11_weight 40 = .ok (.aload_n 0, 1) := by decide +kernel
theorem dX11_weight_41 : decode cX11_weight 41 = .ok (.invokevirtual 164, 3) := by decide +kernel
theorem dX11_weight_44 : decode cX11_weight 44 = .ok (.iload_n 3, 1) := by decide +kernel
theorem dX11_weight_45 : decode cX11_weight 45 = .ok (.ireturn, 1) := by decide +kernel
theorem dX11_spot_0 : decode cX11_spot 0 = .ok (.iconst 4, 1) := by decide +kernel
theorem dX11_spot_1 : decode cX11_spot 1 = .ok (.iload_n 1, 1) := by decide +kernel
theorem dX11_spot_2 : decode cX11_spot 2 = .ok (.imul, 1) := by decide +kernel
theorem dX11_spot_3 : decode cX11_spot 3 = .ok (.iload_n 2, 1) := by decide +kernel
theorem dX11_spot_4 : decode cX11_spot 4 = .ok (.iadd, 1) := by decide +kernel
theorem dX11_spot_5 : decode cX11_spot 5 = .ok (.ireturn, 1) := by decide +kernel
theorem dX11_note_0 : decode cX11_note 0 = .ok (.aload_n 0, 1) := by decide +kernel
theorem dX11_note_1 : decode cX11_note 1 = .ok (.iload_n 1, 1) := by decide +kernel
theorem dX11_note_2 : decode cX11_note 2 = .ok (.iconst 0, 1) := by decide +kernel
theorem dX11_note_3 : decode cX11_note 3 = .ok (.bipush 120, 2) := by decide +kernel
theorem dX11_note_5 : decode cX11_note 5 = .ok (.invokevirtual 156, 3) := by decide +kernel
theorem dX11_note_8 : decode cX11_note 8 = .ok (.ifCond .eq 24, 3) := by decide +kernel
theorem dX11_note_11 : decode cX11_note 11 = .ok (.aload_n 0, 1) := by decide +kernel
theorem dX11_note_12 : decode cX11_note 12 = .ok (.iload_n 2, 1) := by decide +kernel
theorem dX11_note_13 : decode cX11_note 13 = .ok (.iconst 0, 1) := by decide +kernel
theorem dX11_note_14 : decode cX11_note 14 = .ok (.iconst 3, 1) := by decide +kernel
theorem dX11_note_15 : decode cX11_note 15 = .ok (.invokevirtual 156, 3) := by decide +kernel
theorem dX11_note_18 : decode cX11_note 18 = .ok (.ifCond .eq 14, 3) := by decide +kernel
theorem dX11_note_21 : decode cX11_note 21 = .ok (.aload_n 0, 1) := by decide +kernel
theorem dX11_note_22 : decode cX11_note 22 = .ok (.iload_n 3, 1) := by decide +kernel
theorem dX11_note_23 : decode cX11_note 23 = .ok (.iconst 0, 1) := by decide +kernel
theorem dX11_note_24 : decode cX11_note 24 = .ok (.bipush 100, 2) := by decide +kernel
theorem dX11_note_26 : decode cX11_note 26 = .ok (.invokevirtual 156, 3) := by decide +kernel
theorem dX11_note_29 : decode cX11_note 29 = .ok (.ifCond .ne 6, 3) := by decide +kernel
theorem dX11_note_32 : decode cX11_note 32 = .ok (.bipush (-2), 2) := by decide +kernel
theorem dX11_note_34 : decode cX11_note 34 = .ok (.ireturn, 1) := by decide +kernel
theorem dX11_note_35 : decode cX11_note 35 = .ok (.iconst 0, 1) := by decide +kernel
theorem dX11_note_36 : decode cX11_note 36 = .ok (.istore 4, 2) := by decide +kernel
theorem dX11_note_38 : decode cX11_note 38 = .ok (.iload 4, 2) := by decide +kernel
theorem dX11_note_40 : decode cX11_note 40 = .ok (.aload_n 0, 1) := by decide +kernel
theorem dX11_note_41 : decode cX11_note 41 = .ok (.getfield 35, 3) := by decide +kernel
theorem dX11_note_44 : decode cX11_note 44 = .ok (.if_icmp .ge 31, 3) := by decide +kernel
theorem dX11_note_75 : decode cX11_note 75 = .ok (.iload_n 2, 1) := by decide +kernel
theorem dX11_note_76 : decode cX11_note 76 = .ok (.iconst 1, 1) := by decide +kernel
theorem dX11_note_77 : decode cX11_note 77 = .ok (.if_icmp .ne 24, 3) := by decide +kernel
theorem dX11_note_80 : decode cX11_note 80 = .ok (.aload_n 0, 1) := by decide +kernel
theorem dX11_note_81 : decode cX11_note 81 = .ok (.getfield 32, 3) := by decide +kernel
theorem dX11_note_84 : decode cX11_note 84 = .ok (.ifCond .eq 43, 3) := by decide +kernel
theorem dX11_note_101 : decode cX11_note 101 = .ok (.iload_n 2, 1) := by decide +kernel
theorem dX11_note_102 : decode cX11_note 102 = .ok (.iconst 2, 1) := by decide +kernel
theorem dX11_note_103 : decode cX11_note 103 = .ok (.if_icmp .ne 27, 3) := by decide +kernel
theorem dX11_note_106 : decode cX11_note 106 = .ok (.aload_n 0, 1) := by decide +kernel
theorem dX11_note_107 : decode cX11_note 107 = .ok (.getfield 32, 3) := by decide +kernel
theorem dX11_note_110 : decode cX11_note 110 = .ok (.ifCond .eq 17, 3) := by decide +kernel
theorem dX11_note_127 : decode cX11_note 127 = .ok (.bipush (-3), 2) := by decide +kernel
theorem dX11_note_129 : decode cX11_note 129 = .ok (.ireturn, 1) := by decide +kernel
theorem dX11_note_130 : decode cX11_note 130 = .ok (.aload_n 0, 1) := by decide +kernel
theorem dX11_note_131 : decode cX11_note 131 = .ok (.getfield 35, 3) := by decide +kernel
theorem dX11_note_134 : decode cX11_note 134 = .ok (.iconst 4, 1) := by decide +kernel
theorem dX11_note_135 : decode cX11_note 135 = .ok (.if_icmp .ne 6, 3) := by decide +kernel
theorem dX11_note_141 : decode cX11_note 141 = .ok (.aload_n 0, 1) := by decide +kernel
theorem dX11_note_142 : decode cX11_note 142 = .ok (.aload_n 0, 1) := by decide +kernel
theorem dX11_note_143 : decode cX11_note 143 = .ok (.getfield 32, 3) := by decide +kernel
theorem dX11_note_146 : decode cX11_note 146 = .ok (.aload_n 0, 1) := by decide +kernel
theorem dX11_note_147 : decode cX11_note 147 = .ok (.getfield 35, 3) := by decide +kernel
theorem dX11_note_150 : decode cX11_note 150 = .ok (.invokevirtual 170, 3) := by decide +kernel
theorem dX11_note_153 : decode cX11_note 153 = .ok (.istore 4, 2) := by decide +kernel
theorem dX11_note_155 : decode cX11_note 155 = .ok (.aload_n 0, 1) := by decide +kernel
theorem dX11_note_156 : decode cX11_note 156 = .ok (.getfield 41, 3) := by decide +kernel
theorem dX11_note_159 : decode cX11_note 159 = .ok (.iload 4, 2) := by decide +kernel
theorem dX11_note_161 : decode cX11_note 161 = .ok (.iload_n 1, 1) := by decide +kernel
theorem dX11_note_162 : decode cX11_note 162 = .ok (.iastore, 1) := by decide +kernel
theorem dX11_note_163 : decode cX11_note 163 = .ok (.aload_n 0, 1) := by decide +kernel
theorem dX11_note_164 : decode cX11_note 164 = .ok (.getfield 44, 3) := by decide +kernel
theorem dX11_note_167 : decode cX11_note 167 = .ok (.iload 4, 2) := by decide +kernel
theorem dX11_note_169 : decode cX11_note 169 = .ok (.iload_n 2, 1) := by decide +kernel
theorem dX11_note_170 : decode cX11_note 170 = .ok (.iastore, 1) := by decide +kernel
theorem dX11_note_171 : decode cX11_note 171 = .ok (.aload_n 0, 1) := by decide +kernel
theorem dX11_note_172 : decode cX11_note 172 = .ok (.getfield 47, 3) := by decide +kernel
theorem dX11_note_175 : decode cX11_note 175 = .ok (.iload 4, 2) := by decide +kernel
theorem dX11_note_177 : decode cX11_note 177 = .ok (.iload_n 3, 1) := by decide +kernel
theorem dX11_note_178 : decode cX11_note 178 = .ok (.iastore, 1) := by decide +kernel
theorem dX11_note_179 : decode cX11_note 179 = .ok (.aload_n 0, 1) := by decide +kernel
theorem dX11_note_180 : decode cX11_note 180 = .ok (.getfield 50, 3) := by decide +kernel
theorem dX11_note_183 : decode cX11_note 183 = .ok (.iload 4, 2) := by decide +kernel
theorem dX11_note_185 : decode cX11_note 185 = .ok (.iconst (-1), 1) := by decide +kernel
theorem dX11_note_186 : decode cX11_note 186 = .ok (.iastore, 1) := by decide +kernel
theorem dX11_note_187 : decode cX11_note 187 = .ok (.aload_n 0, 1) := by decide +kernel
theorem dX11_note_188 : decode cX11_note 188 = .ok (.dup, 1) := by decide +kernel
theorem dX11_note_189 : decode cX11_note 189 = .ok (.getfield 35, 3) := by decide +kernel
theorem dX11_note_192 : decode cX11_note 192 = .ok (.iconst 1, 1) := by decide +kernel
theorem dX11_note_193 : decode cX11_note 193 = .ok (.iadd, 1) := by decide +kernel
theorem dX11_note_194 : decode cX11_note 194 = .ok (.putfield 35, 3) := by decide +kernel
theorem dX11_note_197 : decode cX11_note 197 = .ok (.aload_n 0, 1) := by decide +kernel
theorem dX11_note_198 : decode cX11_note 198 = .ok (.getfield 35, 3) := by decide +kernel
theorem dX11_note_201 : decode cX11_note 201 = .ok (.ireturn, 1) := by decide +kernel
theorem dX11_tick_0 : decode cX11_tick 0 = .ok (.aload_n 0, 1) := by decide +kernel
theorem dX11_tick_1 : decode cX11_tick 1 = .ok (.getfield 7, 3) := by decide +kernel
theorem dX11_tick_4 : decode cX11_tick 4 = .ok (.ifCond .ne 6, 3) := by decide +kernel
theorem dX11_tick_7 : decode cX11_tick 7 = .ok (.bipush (-3), 2) := by decide +kernel
theorem dX11_tick_9 : decode cX11_tick 9 = .ok (.ireturn, 1) := by decide +kernel
theorem dX11_clear_0 : decode cX11_clear 0 = .ok (.aload_n 0, 1) := by decide +kernel
theorem dX11_clear_1 : decode cX11_clear 1 = .ok (.getfield 32, 3) := by decide +kernel
theorem dX11_clear_4 : decode cX11_clear 4 = .ok (.istore_n 1, 1) := by decide +kernel
theorem dX11_clear_5 : decode cX11_clear 5 = .ok (.aload_n 0, 1) := by decide +kernel
theorem dX11_clear_6 : decode cX11_clear 6 = .ok (.iconst 0, 1) := by decide +kernel
theorem dX11_clear_7 : decode cX11_clear 7 = .ok (.putfield 32, 3) := by decide +kernel
theorem dX11_clear_10 : decode cX11_clear 10 = .ok (.aload_n 0, 1) := by decide +kernel
theorem dX11_clear_11 : decode cX11_clear 11 = .ok (.iconst 0, 1) := by decide +kernel
theorem dX11_clear_12 : decode cX11_clear 12 = .ok (.putfield 35, 3) := by decide +kernel
theorem dX11_clear_15 : decode cX11_clear 15 = .ok (.aload_n 0, 1) := by decide +kernel
theorem dX11_clear_16 : decode cX11_clear 16 = .ok (.invokevirtual 164, 3) := by decide +kernel
theorem dX11_clear_19 : decode cX11_clear 19 = .ok (.iload_n 1, 1) := by decide +kernel
theorem dX11_clear_20 : decode cX11_clear 20 = .ok (.ireturn, 1) := by decide +kernel
theorem dX11_fix_0 : decode cX11_fix 0 = .ok (.aload_n 0, 1) := by decide +kernel
theorem dX11_fix_1 : decode cX11_fix 1 = .ok (.iload_n 1, 1) := by decide +kernel
theorem dX11_fix_2 : decode cX11_fix 2 = .ok (.iload_n 2, 1) := by decide +kernel
theorem dX11_fix_3 : decode cX11_fix 3 = .ok (.invokevirtual 177, 3) := by decide +kernel
theorem dX11_fix_6 : decode cX11_fix 6 = .ok (.ifCond .eq 16, 3) := by decide +kernel
theorem dX11_fix_22 : decode cX11_fix 22 = .ok (.iconst (-1), 1) := by decide +kernel
theorem dX11_fix_23 : decode cX11_fix 23 = .ok (.ireturn, 1) := by decide +kernel
theorem dX11_told_0 : decode cX11_told 0 = .ok (.aload_n 0, 1) := by decide +kernel
theorem dX11_told_1 : decode cX11_told 1 = .ok (.iload_n 1, 1) := by decide +kernel
theorem dX11_told_2 : decode cX11_told 2 = .ok (.iload_n 2, 1) := by decide +kernel
theorem dX11_told_3 : decode cX11_told 3 = .ok (.invokevirtual 177, 3) := by decide +kernel
theorem dX11_told_6 : decode cX11_told 6 = .ok (.ifCond .ne 5, 3) := by decide +kernel
theorem dX11_told_9 : decode cX11_told 9 = .ok (.iconst (-1), 1) := by decide +kernel
theorem dX11_told_10 : decode cX11_told 10 = .ok (.ireturn, 1) := by decide +kernel
theorem dX11_grips_0 : decode cX11_grips 0 = .ok (.aload_n 0, 1) := by decide +kernel
theorem dX11_grips_1 : decode cX11_grips 1 = .ok (.iload_n 1, 1) := by decide +kernel
theorem dX11_grips_2 : decode cX11_grips 2 = .ok (.invokevirtual 160, 3) := by decide +kernel
theorem dX11_grips_5 : decode cX11_grips 5 = .ok (.ifCond .ne 5, 3) := by decide +kernel
theorem dX11_grips_8 : decode cX11_grips 8 = .ok (.iconst (-1), 1) := by decide +kernel
theorem dX11_grips_9 : decode cX11_grips 9 = .ok (.ireturn, 1) := by decide +kernel
theorem dX11_grip_0 : decode cX11_grip 0 = .ok (.aload_n 0, 1) := by decide +kernel
theorem dX11_grip_1 : decode cX11_grip 1 = .ok (.iload_n 1, 1) := by decide +kernel
theorem dX11_grip_2 : decode cX11_grip 2 = .ok (.invokevirtual 160, 3) := by decide +kernel
theorem dX11_grip_5 : decode cX11_grip 5 = .ok (.ifCond .eq 31, 3) := by decide +kernel
theorem dX11_grip_36 : decode cX11_grip 36 = .ok (.iconst (-1), 1) := by decide +kernel
theorem dX11_grip_37 : decode cX11_grip 37 = .ok (.ireturn, 1) := by decide +kernel
theorem dX11_why_0 : decode cX11_why 0 = .ok (.aload_n 0, 1) := by decide +kernel
theorem dX11_why_1 : decode cX11_why 1 = .ok (.iload_n 1, 1) := by decide +kernel
theorem dX11_why_2 : decode cX11_why 2 = .ok (.invokevirtual 160, 3) := by decide +kernel
theorem dX11_why_5 : decode cX11_why 5 = .ok (.ifCond .ne 5, 3) := by decide +kernel
theorem dX11_why_8 : decode cX11_why 8 = .ok (.iconst (-1), 1) := by decide +kernel
theorem dX11_why_9 : decode cX11_why 9 = .ok (.ireturn, 1) := by decide +kernel
theorem dX11_way_0 : decode cX11_way 0 = .ok (.aload_n 0, 1) := by decide +kernel
theorem dX11_way_1 : decode cX11_way 1 = .ok (.getfield 32, 3) := by decide +kernel
theorem dX11_way_4 : decode cX11_way 4 = .ok (.ifCond .ne 6, 3) := by decide +kernel
theorem dX11_way_7 : decode cX11_way 7 = .ok (.bipush (-3), 2) := by decide +kernel
theorem dX11_way_9 : decode cX11_way 9 = .ok (.ireturn, 1) := by decide +kernel
theorem dX11_next_0 : decode cX11_next 0 = .ok (.aload_n 0, 1) := by decide +kernel
theorem dX11_next_1 : decode cX11_next 1 = .ok (.getfield 53, 3) := by decide +kernel
theorem dX11_next_4 : decode cX11_next 4 = .ok (.ifCond .eq 12, 3) := by decide +kernel
theorem dX11_next_16 : decode cX11_next 16 = .ok (.bipush (-3), 2) := by decide +kernel
theorem dX11_next_18 : decode cX11_next 18 = .ok (.ireturn, 1) := by decide +kernel
theorem dX11_at_0 : decode cX11_at 0 = .ok (.aload_n 0, 1) := by decide +kernel
theorem dX11_at_1 : decode cX11_at 1 = .ok (.getfield 53, 3) := by decide +kernel
theorem dX11_at_4 : decode cX11_at 4 = .ok (.ifCond .eq 20, 3) := by decide +kernel
theorem dX11_at_24 : decode cX11_at 24 = .ok (.iconst (-1), 1) := by decide +kernel
theorem dX11_at_25 : decode cX11_at 25 = .ok (.ireturn, 1) := by decide +kernel
theorem dX11_rank_0 : decode cX11_rank 0 = .ok (.aload_n 0, 1) := by decide +kernel
theorem dX11_rank_1 : decode cX11_rank 1 = .ok (.getfield 53, 3) := by decide +kernel
theorem dX11_rank_4 : decode cX11_rank 4 = .ok (.ifCond .ne 6, 3) := by decide +kernel
theorem dX11_rank_7 : decode cX11_rank 7 = .ok (.bipush (-3), 2) := by decide +kernel
theorem dX11_rank_9 : decode cX11_rank 9 = .ok (.ireturn, 1) := by decide +kernel
theorem dX11_say_0 : decode cX11_say 0 = .ok (.iload_n 1, 1) := by decide +kernel
theorem dX11_say_1 : decode cX11_say 1 = .ok (.ifCond .ge 6, 3) := by decide +kernel
theorem dX11_say_4 : decode cX11_say 4 = .ok (.bipush (-2), 2) := by decide +kernel
theorem dX11_say_6 : decode cX11_say 6 = .ok (.ireturn, 1) := by decide +kernel
theorem dX11_say_7 : decode cX11_say 7 = .ok (.aload_n 0, 1) := by decide +kernel
theorem dX11_say_8 : decode cX11_say 8 = .ok (.getfield 123, 3) := by decide +kernel
theorem dX11_say_11 : decode cX11_say 11 = .ok (.bipush 16, 2) := by decide +kernel
theorem dX11_say_13 : decode cX11_say 13 = .ok (.if_icmp .ne 6, 3) := by decide +kernel
theorem dX11_say_19 : decode cX11_say 19 = .ok (.aload_n 0, 1) := by decide +kernel
theorem dX11_say_20 : decode cX11_say 20 = .ok (.getfield 120, 3) := by decide +kernel
theorem dX11_say_23 : decode cX11_say 23 = .ok (.aload_n 0, 1) := by decide +kernel
theorem dX11_say_24 : decode cX11_say 24 = .ok (.getfield 123, 3) := by decide +kernel
theorem dX11_say_27 : decode cX11_say 27 = .ok (.iload_n 1, 1) := by decide +kernel
theorem dX11_say_28 : decode cX11_say 28 = .ok (.iastore, 1) := by decide +kernel
theorem dX11_say_29 : decode cX11_say 29 = .ok (.aload_n 0, 1) := by decide +kernel
theorem dX11_say_30 : decode cX11_say 30 = .ok (.dup, 1) := by decide +kernel
theorem dX11_say_31 : decode cX11_say 31 = .ok (.getfield 123, 3) := by decide +kernel
theorem dX11_say_34 : decode cX11_say 34 = .ok (.iconst 1, 1) := by decide +kernel
theorem dX11_say_35 : decode cX11_say 35 = .ok (.iadd, 1) := by decide +kernel
theorem dX11_say_36 : decode cX11_say 36 = .ok (.putfield 123, 3) := by decide +kernel
theorem dX11_say_39 : decode cX11_say 39 = .ok (.aload_n 0, 1) := by decide +kernel
theorem dX11_say_40 : decode cX11_say 40 = .ok (.getfield 123, 3) := by decide +kernel
theorem dX11_say_43 : decode cX11_say 43 = .ok (.ireturn, 1) := by decide +kernel
theorem dX11_check_0 : decode cX11_check 0 = .ok (.aload_n 0, 1) := by decide +kernel
theorem dX11_check_1 : decode cX11_check 1 = .ok (.getfield 32, 3) := by decide +kernel
theorem dX11_check_4 : decode cX11_check 4 = .ok (.ifCond .ne 6, 3) := by decide +kernel
theorem dX11_check_7 : decode cX11_check 7 = .ok (.bipush (-3), 2) := by decide +kernel
theorem dX11_check_9 : decode cX11_check 9 = .ok (.ireturn, 1) := by decide +kernel
theorem dX11_arrange_0 : decode cX11_arrange 0 = .ok (.aload_n 0, 1) := by decide +kernel
theorem dX11_arrange_1 : decode cX11_arrange 1 = .ok (.getfield 32, 3) := by decide +kernel
theorem dX11_arrange_4 : decode cX11_arrange 4 = .ok (.ifCond .ne 6, 3) := by decide +kernel
theorem dX11_arrange_7 : decode cX11_arrange 7 = .ok (.bipush (-3), 2) := by decide +kernel
theorem dX11_arrange_9 : decode cX11_arrange 9 = .ok (.ireturn, 1) := by decide +kernel
theorem dX11_left_0 : decode cX11_left 0 = .ok (.aload_n 0, 1) := by decide +kernel
theorem dX11_left_1 : decode cX11_left 1 = .ok (.getfield 57, 3) := by decide +kernel
theorem dX11_left_4 : decode cX11_left 4 = .ok (.ifCond .eq 20, 3) := by decide +kernel
theorem dX11_left_24 : decode cX11_left 24 = .ok (.iconst (-1), 1) := by decide +kernel
theorem dX11_left_25 : decode cX11_left 25 = .ok (.ireturn, 1) := by decide +kernel
theorem dX11_rest_0 : decode cX11_rest 0 = .ok (.aload_n 0, 1) := by decide +kernel
theorem dX11_rest_1 : decode cX11_rest 1 = .ok (.getfield 57, 3) := by decide +kernel
theorem dX11_rest_4 : decode cX11_rest 4 = .ok (.ifCond .eq 10, 3) := by decide +kernel
theorem dX11_rest_14 : decode cX11_rest 14 = .ok (.iconst (-1), 1) := by decide +kernel
theorem dX11_rest_15 : decode cX11_rest 15 = .ok (.ireturn, 1) := by decide +kernel
theorem dX11_tuning_0 : decode cX11_tuning 0 = .ok (.aload_n 0, 1) := by decide +kernel
theorem dX11_tuning_1 : decode cX11_tuning 1 = .ok (.iload_n 1, 1) := by decide +kernel
theorem dX11_tuning_2 : decode cX11_tuning 2 = .ok (.iconst 0, 1) := by decide +kernel
theorem dX11_tuning_3 : decode cX11_tuning 3 = .ok (.iconst 3, 1) := by decide +kernel
theorem dX11_tuning_4 : decode cX11_tuning 4 = .ok (.invokevirtual 156, 3) := by decide +kernel
theorem dX11_tuning_7 : decode cX11_tuning 7 = .ok (.ifCond .eq 11, 3) := by decide +kernel
theorem dX11_tuning_10 : decode cX11_tuning 10 = .ok (.aload_n 0, 1) := by decide +kernel
theorem dX11_tuning_11 : decode cX11_tuning 11 = .ok (.iload_n 2, 1) := by decide +kernel
theorem dX11_tuning_12 : decode cX11_tuning 12 = .ok (.invokevirtual 167, 3) := by decide +kernel
theorem dX11_tuning_15 : decode cX11_tuning 15 = .ok (.ifCond .ne 5, 3) := by decide +kernel
theorem dX11_tuning_18 : decode cX11_tuning 18 = .ok (.iconst (-1), 1) := by decide +kernel
theorem dX11_tuning_19 : decode cX11_tuning 19 = .ok (.ireturn, 1) := by decide +kernel
theorem dX11_choose_0 : decode cX11_choose 0 = .ok (.aload_n 0, 1) := by decide +kernel
theorem dX11_choose_1 : decode cX11_choose 1 = .ok (.getfield 32, 3) := by decide +kernel
theorem dX11_choose_4 : decode cX11_choose 4 = .ok (.ifCond .ne 6, 3) := by decide +kernel
theorem dX11_choose_7 : decode cX11_choose 7 = .ok (.bipush (-3), 2) := by decide +kernel
theorem dX11_choose_9 : decode cX11_choose 9 = .ok (.ireturn, 1) := by decide +kernel
theorem dX11_feed_0 : decode cX11_feed 0 = .ok (.aload_n 0, 1) := by decide +kernel
theorem dX11_feed_1 : decode cX11_feed 1 = .ok (.iload_n 1, 1) := by decide +kernel
theorem dX11_feed_2 : decode cX11_feed 2 = .ok (.iconst 0, 1) := by decide +kernel
theorem dX11_feed_3 : decode cX11_feed 3 = .ok (.sipush 255, 3) := by decide +kernel
theorem dX11_feed_6 : decode cX11_feed 6 = .ok (.invokevirtual 156, 3) := by decide +kernel
theorem dX11_feed_9 : decode cX11_feed 9 = .ok (.ifCond .ne 6, 3) := by decide +kernel
theorem dX11_feed_12 : decode cX11_feed 12 = .ok (.bipush (-2), 2) := by decide +kernel
theorem dX11_feed_14 : decode cX11_feed 14 = .ok (.ireturn, 1) := by decide +kernel
theorem dX11_feed_15 : decode cX11_feed 15 = .ok (.aload_n 0, 1) := by decide +kernel
theorem dX11_feed_16 : decode cX11_feed 16 = .ok (.getfield 141, 3) := by decide +kernel
theorem dX11_feed_19 : decode cX11_feed 19 = .ok (.sipush 600, 3) := by decide +kernel
theorem dX11_feed_22 : decode cX11_feed 22 = .ok (.if_icmp .ne 6, 3) := by decide +kernel
theorem dX11_feed_28 : decode cX11_feed 28 = .ok (.aload_n 0, 1) := by decide +kernel
theorem dX11_feed_29 : decode cX11_feed 29 = .ok (.getfield 138, 3) := by decide +kernel
theorem dX11_feed_32 : decode cX11_feed 32 = .ok (.aload_n 0, 1) := by decide +kernel
theorem dX11_feed_33 : decode cX11_feed 33 = .ok (.getfield 141, 3) := by decide +kernel
theorem dX11_feed_36 : decode cX11_feed 36 = .ok (.iload_n 1, 1) := by decide +kernel
theorem dX11_feed_37 : decode cX11_feed 37 = .ok (.iastore, 1) := by decide +kernel
theorem dX11_feed_38 : decode cX11_feed 38 = .ok (.aload_n 0, 1) := by decide +kernel
theorem dX11_feed_39 : decode cX11_feed 39 = .ok (.dup, 1) := by decide +kernel
theorem dX11_feed_40 : decode cX11_feed 40 = .ok (.getfield 141, 3) := by decide +kernel
theorem dX11_feed_43 : decode cX11_feed 43 = .ok (.iconst 1, 1) := by decide +kernel
theorem dX11_feed_44 : decode cX11_feed 44 = .ok (.iadd, 1) := by decide +kernel
theorem dX11_feed_45 : decode cX11_feed 45 = .ok (.putfield 141, 3) := by decide +kernel
theorem dX11_feed_48 : decode cX11_feed 48 = .ok (.aload_n 0, 1) := by decide +kernel
theorem dX11_feed_49 : decode cX11_feed 49 = .ok (.getfield 141, 3) := by decide +kernel
theorem dX11_feed_52 : decode cX11_feed 52 = .ok (.ireturn, 1) := by decide +kernel
theorem dX11_wipe_0 : decode cX11_wipe 0 = .ok (.aload_n 0, 1) := by decide +kernel
theorem dX11_wipe_1 : decode cX11_wipe 1 = .ok (.getfield 141, 3) := by decide +kernel
theorem dX11_wipe_4 : decode cX11_wipe 4 = .ok (.istore_n 1, 1) := by decide +kernel
theorem dX11_wipe_5 : decode cX11_wipe 5 = .ok (.aload_n 0, 1) := by decide +kernel
theorem dX11_wipe_6 : decode cX11_wipe 6 = .ok (.iconst 0, 1) := by decide +kernel
theorem dX11_wipe_7 : decode cX11_wipe 7 = .ok (.putfield 141, 3) := by decide +kernel
theorem dX11_wipe_10 : decode cX11_wipe 10 = .ok (.iload_n 1, 1) := by decide +kernel
theorem dX11_wipe_11 : decode cX11_wipe 11 = .ok (.ireturn, 1) := by decide +kernel
theorem dX11_tape_0 : decode cX11_tape 0 = .ok (.aload_n 0, 1) := by decide +kernel
theorem dX11_tape_1 : decode cX11_tape 1 = .ok (.iload_n 1, 1) := by decide +kernel
theorem dX11_tape_2 : decode cX11_tape 2 = .ok (.iconst 0, 1) := by decide +kernel
theorem dX11_tape_3 : decode cX11_tape 3 = .ok (.aload_n 0, 1) := by decide +kernel
theorem dX11_tape_4 : decode cX11_tape 4 = .ok (.getfield 141, 3) := by decide +kernel
theorem dX11_tape_7 : decode cX11_tape 7 = .ok (.iconst 1, 1) := by decide +kernel
theorem dX11_tape_8 : decode cX11_tape 8 = .ok (.isub, 1) := by decide +kernel
theorem dX11_tape_9 : decode cX11_tape 9 = .ok (.invokevirtual 156, 3) := by decide +kernel
theorem dX11_tape_12 : decode cX11_tape 12 = .ok (.ifCond .eq 12, 3) := by decide +kernel
theorem dX11_tape_24 : decode cX11_tape 24 = .ok (.iconst (-1), 1) := by decide +kernel
theorem dX11_tape_25 : decode cX11_tape 25 = .ok (.ireturn, 1) := by decide +kernel
theorem dX11_write_0 : decode cX11_write 0 = .ok (.aload_n 0, 1) := by decide +kernel
theorem dX11_write_1 : decode cX11_write 1 = .ok (.getfield 53, 3) := by decide +kernel
theorem dX11_write_4 : decode cX11_write 4 = .ok (.ifCond .ne 6, 3) := by decide +kernel
theorem dX11_write_7 : decode cX11_write 7 = .ok (.bipush (-3), 2) := by decide +kernel
theorem dX11_write_9 : decode cX11_write 9 = .ok (.ireturn, 1) := by decide +kernel
theorem dX11_read_0 : decode cX11_read 0 = .ok (.aload_n 0, 1) := by decide +kernel
theorem dX11_read_1 : decode cX11_read 1 = .ok (.getfield 7, 3) := by decide +kernel
theorem dX11_read_4 : decode cX11_read 4 = .ok (.ifCond .ne 6, 3) := by decide +kernel
theorem dX11_read_7 : decode cX11_read 7 = .ok (.bipush (-3), 2) := by decide +kernel
theorem dX11_read_9 : decode cX11_read 9 = .ok (.ireturn, 1) := by decide +kernel
theorem dX11_count__0 : decode cX11_count_ 0 = .ok (.iconst 0, 1) := by decide +kernel
theorem dX11_count__1 : decode cX11_count_ 1 = .ok (.istore_n 2, 1) := by decide +kernel
theorem dX11_count__2 : decode cX11_count_ 2 = .ok (.iload_n 1, 1) := by decide +kernel
theorem dX11_count__3 : decode cX11_count_ 3 = .ok (.tableswitch 108 0 5 #[37, 42, 47, 74, 79, 92], 37) := by decide +kernel
theorem dX11_count__40 : decode cX11_count_ 40 = .ok (.aload_n 0, 1) := by decide +kernel
theorem dX11_count__41 : decode cX11_count_ 41 = .ok (.getfield 7, 3) := by decide +kernel
theorem dX11_count__44 : decode cX11_count_ 44 = .ok (.ireturn, 1) := by decide +kernel
theorem dX11_count__45 : decode cX11_count_ 45 = .ok (.aload_n 0, 1) := by decide +kernel
theorem dX11_count__46 : decode cX11_count_ 46 = .ok (.getfield 32, 3) := by decide +kernel
theorem dX11_count__49 : decode cX11_count_ 49 = .ok (.ireturn, 1) := by decide +kernel
theorem dX11_count__50 : decode cX11_count_ 50 = .ok (.iconst 0, 1) := by decide +kernel
theorem dX11_count__51 : decode cX11_count_ 51 = .ok (.istore_n 3, 1) := by decide +kernel
theorem dX11_count__52 : decode cX11_count_ 52 = .ok (.iload_n 3, 1) := by decide +kernel
theorem dX11_count__53 : decode cX11_count_ 53 = .ok (.aload_n 0, 1) := by decide +kernel
theorem dX11_count__54 : decode cX11_count_ 54 = .ok (.getfield 32, 3) := by decide +kernel
theorem dX11_count__57 : decode cX11_count_ 57 = .ok (.if_icmp .ge 18, 3) := by decide +kernel
theorem dX11_count__75 : decode cX11_count_ 75 = .ok (.iload_n 2, 1) := by decide +kernel
theorem dX11_count__76 : decode cX11_count_ 76 = .ok (.ireturn, 1) := by decide +kernel
theorem dX11_count__77 : decode cX11_count_ 77 = .ok (.aload_n 0, 1) := by decide +kernel
theorem dX11_count__78 : decode cX11_count_ 78 = .ok (.getfield 35, 3) := by decide +kernel
theorem dX11_count__81 : decode cX11_count_ 81 = .ok (.ireturn, 1) := by decide +kernel
theorem dX11_count__82 : decode cX11_count_ 82 = .ok (.aload_n 0, 1) := by decide +kernel
theorem dX11_count__83 : decode cX11_count_ 83 = .ok (.getfield 53, 3) := by decide +kernel
theorem dX11_count__86 : decode cX11_count_ 86 = .ok (.ifCond .eq 7, 3) := by decide +kernel
theorem dX11_count__93 : decode cX11_count_ 93 = .ok (.iconst 0, 1) := by decide +kernel
theorem dX11_count__94 : decode cX11_count_ 94 = .ok (.ireturn, 1) := by decide +kernel
theorem dX11_count__95 : decode cX11_count_ 95 = .ok (.aload_n 0, 1) := by decide +kernel
theorem dX11_count__96 : decode cX11_count_ 96 = .ok (.getfield 53, 3) := by decide +kernel
theorem dX11_count__99 : decode cX11_count_ 99 = .ok (.ifCond .eq 10, 3) := by decide +kernel
theorem dX11_count__109 : decode cX11_count_ 109 = .ok (.iconst (-1), 1) := by decide +kernel
theorem dX11_count__110 : decode cX11_count_ 110 = .ok (.ireturn, 1) := by decide +kernel
theorem dX11_count__111 : decode cX11_count_ 111 = .ok (.iconst (-1), 1) := by decide +kernel
theorem dX11_count__112 : decode cX11_count_ 112 = .ok (.ireturn, 1) := by decide +kernel
theorem dL_law_0 : decode cL_law 0 = .ok (.new 7, 3) := by decide +kernel
theorem dL_law_3 : decode cL_law 3 = .ok (.dup, 1) := by decide +kernel
theorem dL_law_4 : decode cL_law 4 = .ok (.invokespecial 9, 3) := by decide +kernel
theorem dL_law_7 : decode cL_law 7 = .ok (.astore_n 1, 1) := by decide +kernel
theorem dL_law_8 : decode cL_law 8 = .ok (.new 10, 3) := by decide +kernel
theorem dL_law_11 : decode cL_law 11 = .ok (.dup, 1) := by decide +kernel
theorem dL_law_12 : decode cL_law 12 = .ok (.invokespecial 12, 3) := by decide +kernel
theorem dL_law_15 : decode cL_law 15 = .ok (.astore_n 2, 1) := by decide +kernel
theorem dL_law_16 : decode cL_law 16 = .ok (.iconst 0, 1) := by decide +kernel
theorem dL_law_17 : decode cL_law 17 = .ok (.istore_n 3, 1) := by decide +kernel
theorem dL_law_18 : decode cL_law 18 = .ok (.iload_n 3, 1) := by decide +kernel
theorem dL_law_19 : decode cL_law 19 = .ok (.aload_n 0, 1) := by decide +kernel
theorem dL_law_20 : decode cL_law 20 = .ok (.arraylength, 1) := by decide +kernel
theorem dL_law_21 : decode cL_law 21 = .ok (.iconst 5, 1) := by decide +kernel
theorem dL_law_22 : decode cL_law 22 = .ok (.isub, 1) := by decide +kernel
theorem dL_law_23 : decode cL_law 23 = .ok (.if_icmp .gt 881, 3) := by decide +kernel
theorem dL_law_26 : decode cL_law 26 = .ok (.aload_n 0, 1) := by decide +kernel
theorem dL_law_27 : decode cL_law 27 = .ok (.iload_n 3, 1) := by decide +kernel
theorem dL_law_28 : decode cL_law 28 = .ok (.iaload, 1) := by decide +kernel
theorem dL_law_29 : decode cL_law 29 = .ok (.bipush 31, 2) := by decide +kernel
theorem dL_law_31 : decode cL_law 31 = .ok (.iand, 1) := by decide +kernel
theorem dL_law_32 : decode cL_law 32 = .ok (.tableswitch 866 0 29 #[136, 169, 202, 235, 258, 291, 334, 347, 360, 403, 446, 469, 522, 545, 558, 571, 594, 617, 640, 653, 666, 689, 702, 745, 758, 781, 794, 817, 830, 843], 136) := by decide +kernel
theorem dL_law_168 : decode cL_law 168 = .ok (.aload_n 1, 1) := by decide +kernel
theorem dL_law_169 : decode cL_law 169 = .ok (.aload_n 0, 1) := by decide +kernel
theorem dL_law_170 : decode cL_law 170 = .ok (.iload_n 3, 1) := by decide +kernel
theorem dL_law_171 : decode cL_law 171 = .ok (.iconst 1, 1) := by decide +kernel
theorem dL_law_172 : decode cL_law 172 = .ok (.iadd, 1) := by decide +kernel
theorem dL_law_173 : decode cL_law 173 = .ok (.iaload, 1) := by decide +kernel
theorem dL_law_174 : decode cL_law 174 = .ok (.aload_n 0, 1) := by decide +kernel
theorem dL_law_175 : decode cL_law 175 = .ok (.iload_n 3, 1) := by decide +kernel
theorem dL_law_176 : decode cL_law 176 = .ok (.iconst 2, 1) := by decide +kernel
theorem dL_law_177 : decode cL_law 177 = .ok (.iadd, 1) := by decide +kernel
theorem dL_law_178 : decode cL_law 178 = .ok (.iaload, 1) := by decide +kernel
theorem dL_law_179 : decode cL_law 179 = .ok (.invokevirtual 13, 3) := by decide +kernel
theorem dL_law_182 : decode cL_law 182 = .ok (.aload_n 2, 1) := by decide +kernel
theorem dL_law_183 : decode cL_law 183 = .ok (.aload_n 0, 1) := by decide +kernel
theorem dL_law_184 : decode cL_law 184 = .ok (.iload_n 3, 1) := by decide +kernel
theorem dL_law_185 : decode cL_law 185 = .ok (.iconst 1, 1) := by decide +kernel
theorem dL_law_186 : decode cL_law 186 = .ok (.iadd, 1) := by decide +kernel
theorem dL_law_187 : decode cL_law 187 = .ok (.iaload, 1) := by decide +kernel
theorem dL_law_188 : decode cL_law 188 = .ok (.aload_n 0, 1) := by decide +kernel
theorem dL_law_189 : decode cL_law 189 = .ok (.iload_n 3, 1) := by decide +kernel
theorem dL_law_190 : decode cL_law 190 = .ok (.iconst 2, 1) := by decide +kernel
theorem dL_law_191 : decode cL_law 191 = .ok (.iadd, 1) := by decide +kernel
theorem dL_law_192 : decode cL_law 192 = .ok (.iaload, 1) := by decide +kernel
theorem dL_law_193 : decode cL_law 193 = .ok (.invokevirtual 17, 3) := by decide +kernel
theorem dL_law_196 : decode cL_law 196 = .ok (.if_icmp .eq 702, 3) := by decide +kernel
theorem dL_law_201 : decode cL_law 201 = .ok (.aload_n 1, 1) := by decide +kernel
theorem dL_law_202 : decode cL_law 202 = .ok (.aload_n 0, 1) := by decide +kernel
theorem dL_law_203 : decode cL_law 203 = .ok (.iload_n 3, 1) := by decide +kernel
theorem dL_law_204 : decode cL_law 204 = .ok (.iconst 1, 1) := by decide +kernel
theorem dL_law_205 : decode cL_law 205 = .ok (.iadd, 1) := by decide +kernel
theorem dL_law_206 : decode cL_law 206 = .ok (.iaload, 1) := by decide +kernel
theorem dL_law_207 : decode cL_law 207 = .ok (.aload_n 0, 1) := by decide +kernel
theorem dL_law_208 : decode cL_law 208 = .ok (.iload_n 3, 1) := by decide +kernel
theorem dL_law_209 : decode cL_law 209 = .ok (.iconst 2, 1) := by decide +kernel
theorem dL_law_210 : decode cL_law 210 = .ok (.iadd, 1) := by decide +kernel
theorem dL_law_211 : decode cL_law 211 = .ok (.iaload, 1) := by decide +kernel
theorem dL_law_212 : decode cL_law 212 = .ok (.invokevirtual 18, 3) := by decide +kernel
theorem dL_law_215 : decode cL_law 215 = .ok (.aload_n 2, 1) := by decide +kernel
theorem dL_law_216 : decode cL_law 216 = .ok (.aload_n 0, 1) := by decide +kernel
theorem dL_law_217 : decode cL_law 217 = .ok (.iload_n 3, 1) := by decide +kernel
theorem dL_law_218 : decode cL_law 218 = .ok (.iconst 1, 1) := by decide +kernel
theorem dL_law_219 : decode cL_law 219 = .ok (.iadd, 1) := by decide +kernel
theorem dL_law_220 : decode cL_law 220 = .ok (.iaload, 1) := by decide +kernel
theorem dL_law_221 : decode cL_law 221 = .ok (.aload_n 0, 1) := by decide +kernel
theorem dL_law_222 : decode cL_law 222 = .ok (.iload_n 3, 1) := by decide +kernel
theorem dL_law_223 : decode cL_law 223 = .ok (.iconst 2, 1) := by decide +kernel
theorem dL_law_224 : decode cL_law 224 = .ok (.iadd, 1) := by decide +kernel
theorem dL_law_225 : decode cL_law 225 = .ok (.iaload, 1) := by decide +kernel
theorem dL_law_226 : decode cL_law 226 = .ok (.invokevirtual 21, 3) := by decide +kernel
theorem dL_law_229 : decode cL_law 229 = .ok (.if_icmp .eq 669, 3) := by decide +kernel
theorem dL_law_234 : decode cL_law 234 = .ok (.aload_n 1, 1) := by decide +kernel
theorem dL_law_235 : decode cL_law 235 = .ok (.aload_n 0, 1) := by decide +kernel
theorem dL_law_236 : decode cL_law 236 = .ok (.iload_n 3, 1) := by decide +kernel
theorem dL_law_237 : decode cL_law 237 = .ok (.iconst 1, 1) := by decide +kernel
theorem dL_law_238 : decode cL_law 238 = .ok (.iadd, 1) := by decide +kernel
theorem dL_law_239 : decode cL_law 239 = .ok (.iaload, 1) := by decide +kernel
theorem dL_law_240 : decode cL_law 240 = .ok (.aload_n 0, 1) := by decide +kernel
theorem dL_law_241 : decode cL_law 241 = .ok (.iload_n 3, 1) := by decide +kernel
theorem dL_law_242 : decode cL_law 242 = .ok (.iconst 2, 1) := by decide +kernel
theorem dL_law_243 : decode cL_law 243 = .ok (.iadd, 1) := by decide +kernel
theorem dL_law_244 : decode cL_law 244 = .ok (.iaload, 1) := by decide +kernel
theorem dL_law_245 : decode cL_law 245 = .ok (.invokevirtual 22, 3) := by decide +kernel
theorem dL_law_248 : decode cL_law 248 = .ok (.aload_n 2, 1) := by decide +kernel
theorem dL_law_249 : decode cL_law 249 = .ok (.aload_n 0, 1) := by decide +kernel
theorem dL_law_250 : decode cL_law 250 = .ok (.iload_n 3, 1) := by decide +kernel
theorem dL_law_251 : decode cL_law 251 = .ok (.iconst 1, 1) := by decide +kernel
theorem dL_law_252 : decode cL_law 252 = .ok (.iadd, 1) := by decide +kernel
theorem dL_law_253 : decode cL_law 253 = .ok (.iaload, 1) := by decide +kernel
theorem dL_law_254 : decode cL_law 254 = .ok (.aload_n 0, 1) := by decide +kernel
theorem dL_law_255 : decode cL_law 255 = .ok (.iload_n 3, 1) := by decide +kernel
theorem dL_law_256 : decode cL_law 256 = .ok (.iconst 2, 1) := by decide +kernel
theorem dL_law_257 : decode cL_law 257 = .ok (.iadd, 1) := by decide +kernel
theorem dL_law_258 : decode cL_law 258 = .ok (.iaload, 1) := by decide +kernel
theorem dL_law_259 : decode cL_law 259 = .ok (.invokevirtual 25, 3) := by decide +kernel
theorem dL_law_262 : decode cL_law 262 = .ok (.if_icmp .eq 636, 3) := by decide +kernel
theorem dL_law_267 : decode cL_law 267 = .ok (.aload_n 1, 1) := by decide +kernel
theorem dL_law_268 : decode cL_law 268 = .ok (.aload_n 0, 1) := by decide +kernel
theorem dL_law_269 : decode cL_law 269 = .ok (.iload_n 3, 1) := by decide +kernel
theorem dL_law_270 : decode cL_law 270 = .ok (.iconst 1, 1) := by decide +kernel
theorem dL_law_271 : decode cL_law 271 = .ok (.iadd, 1) := by decide +kernel
theorem dL_law_272 : decode cL_law 272 = .ok (.iaload, 1) := by decide +kernel
theorem dL_law_273 : decode cL_law 273 = .ok (.invokevirtual 26, 3) := by decide +kernel
theorem dL_law_276 : decode cL_law 276 = .ok (.aload_n 2, 1) := by decide +kernel
theorem dL_law_277 : decode cL_law 277 = .ok (.aload_n 0, 1) := by decide +kernel
theorem dL_law_278 : decode cL_law 278 = .ok (.iload_n 3, 1) := by decide +kernel
theorem dL_law_279 : decode cL_law 279 = .ok (.iconst 1, 1) := by decide +kernel
theorem dL_law_280 : decode cL_law 280 = .ok (.iadd, 1) := by decide +kernel
theorem dL_law_281 : decode cL_law 281 = .ok (.iaload, 1) := by decide +kernel
theorem dL_law_282 : decode cL_law 282 = .ok (.invokevirtual 30, 3) := by decide +kernel
theorem dL_law_285 : decode cL_law 285 = .ok (.if_icmp .eq 613, 3) := by decide +kernel
theorem dL_law_290 : decode cL_law 290 = .ok (.aload_n 1, 1) := by decide +kernel
theorem dL_law_291 : decode cL_law 291 = .ok (.aload_n 0, 1) := by decide +kernel
theorem dL_law_292 : decode cL_law 292 = .ok (.iload_n 3, 1) := by decide +kernel
theorem dL_law_293 : decode cL_law 293 = .ok (.iconst 1, 1) := by decide +kernel
theorem dL_law_294 : decode cL_law 294 = .ok (.iadd, 1) := by decide +kernel
theorem dL_law_295 : decode cL_law 295 = .ok (.iaload, 1) := by decide +kernel
theorem dL_law_296 : decode cL_law 296 = .ok (.aload_n 0, 1) := by decide +kernel
theorem dL_law_297 : decode cL_law 297 = .ok (.iload_n 3, 1) := by decide +kernel
theorem dL_law_298 : decode cL_law 298 = .ok (.iconst 2, 1) := by decide +kernel
theorem dL_law_299 : decode cL_law 299 = .ok (.iadd, 1) := by decide +kernel
theorem dL_law_300 : decode cL_law 300 = .ok (.iaload, 1) := by decide +kernel
theorem dL_law_301 : decode cL_law 301 = .ok (.invokevirtual 31, 3) := by decide +kernel
theorem dL_law_304 : decode cL_law 304 = .ok (.aload_n 2, 1) := by decide +kernel
theorem dL_law_305 : decode cL_law 305 = .ok (.aload_n 0, 1) := by decide +kernel
theorem dL_law_306 : decode cL_law 306 = .ok (.iload_n 3, 1) := by decide +kernel
theorem dL_law_307 : decode cL_law 307 = .ok (.iconst 1, 1) := by decide +kernel
theorem dL_law_308 : decode cL_law 308 = .ok (.iadd, 1) := by decide +kernel
theorem dL_law_309 : decode cL_law 309 = .ok (.iaload, 1) := by decide +kernel
theorem dL_law_310 : decode cL_law 310 = .ok (.aload_n 0, 1) := by decide +kernel
theorem dL_law_311 : decode cL_law 311 = .ok (.iload_n 3, 1) := by decide +kernel
theorem dL_law_312 : decode cL_law 312 = .ok (.iconst 2, 1) := by decide +kernel
theorem dL_law_313 : decode cL_law 313 = .ok (.iadd, 1) := by decide +kernel
theorem dL_law_314 : decode cL_law 314 = .ok (.iaload, 1) := by decide +kernel
theorem dL_law_315 : decode cL_law 315 = .ok (.invokevirtual 34, 3) := by decide +kernel
theorem dL_law_318 : decode cL_law 318 = .ok (.if_icmp .eq 580, 3) := by decide +kernel
theorem dL_law_323 : decode cL_law 323 = .ok (.aload_n 1, 1) := by decide +kernel
theorem dL_law_324 : decode cL_law 324 = .ok (.aload_n 0, 1) := by decide +kernel
theorem dL_law_325 : decode cL_law 325 = .ok (.iload_n 3, 1) := by decide +kernel
theorem dL_law_326 : decode cL_law 326 = .ok (.iconst 1, 1) := by decide +kernel
theorem dL_law_327 : decode cL_law 327 = .ok (.iadd, 1) := by decide +kernel
theorem dL_law_328 : decode cL_law 328 = .ok (.iaload, 1) := by decide +kernel
theorem dL_law_329 : decode cL_law 329 = .ok (.aload_n 0, 1) := by decide +kernel
theorem dL_law_330 : decode cL_law 330 = .ok (.iload_n 3, 1) := by decide +kernel
theorem dL_law_331 : decode cL_law 331 = .ok (.iconst 2, 1) := by decide +kernel
theorem dL_law_332 : decode cL_law 332 = .ok (.iadd, 1) := by decide +kernel
theorem dL_law_333 : decode cL_law 333 = .ok (.iaload, 1) := by decide +kernel
theorem dL_law_334 : decode cL_law 334 = .ok (.aload_n 0, 1) := by decide +kernel
theorem dL_law_335 : decode cL_law 335 = .ok (.iload_n 3, 1) := by decide +kernel
theorem dL_law_336 : decode cL_law 336 = .ok (.iconst 3, 1) := by decide +kernel
theorem dL_law_337 : decode cL_law 337 = .ok (.iadd, 1) := by decide +kernel
theorem dL_law_338 : decode cL_law 338 = .ok (.iaload, 1) := by decide +kernel
theorem dL_law_339 : decode cL_law 339 = .ok (.invokevirtual 35, 3) := by decide +kernel
theorem dL_law_342 : decode cL_law 342 = .ok (.aload_n 2, 1) := by decide +kernel
theorem dL_law_343 : decode cL_law 343 = .ok (.aload_n 0, 1) := by decide +kernel
theorem dL_law_344 : decode cL_law 344 = .ok (.iload_n 3, 1) := by decide +kernel
theorem dL_law_345 : decode cL_law 345 = .ok (.iconst 1, 1) := by decide +kernel
theorem dL_law_346 : decode cL_law 346 = .ok (.iadd, 1) := by decide +kernel
theorem dL_law_347 : decode cL_law 347 = .ok (.iaload, 1) := by decide +kernel
theorem dL_law_348 : decode cL_law 348 = .ok (.aload_n 0, 1) := by decide +kernel
theorem dL_law_349 : decode cL_law 349 = .ok (.iload_n 3, 1) := by decide +kernel
theorem dL_law_350 : decode cL_law 350 = .ok (.iconst 2, 1) := by decide +kernel
theorem dL_law_351 : decode cL_law 351 = .ok (.iadd, 1) := by decide +kernel
theorem dL_law_352 : decode cL_law 352 = .ok (.iaload, 1) := by decide +kernel
theorem dL_law_353 : decode cL_law 353 = .ok (.aload_n 0, 1) := by decide +kernel
theorem dL_law_354 : decode cL_law 354 = .ok (.iload_n 3, 1) := by decide +kernel
theorem dL_law_355 : decode cL_law 355 = .ok (.iconst 3, 1) := by decide +kernel
theorem dL_law_356 : decode cL_law 356 = .ok (.iadd, 1) := by decide +kernel
theorem dL_law_357 : decode cL_law 357 = .ok (.iaload, 1) := by decide +kernel
theorem dL_law_358 : decode cL_law 358 = .ok (.invokevirtual 39, 3) := by decide +kernel
theorem dL_law_361 : decode cL_law 361 = .ok (.if_icmp .eq 537, 3) := by decide +kernel
theorem dL_law_366 : decode cL_law 366 = .ok (.aload_n 1, 1) := by decide +kernel
theorem dL_law_367 : decode cL_law 367 = .ok (.invokevirtual 40, 3) := by decide +kernel
theorem dL_law_370 : decode cL_law 370 = .ok (.aload_n 2, 1) := by decide +kernel
theorem dL_law_371 : decode cL_law 371 = .ok (.invokevirtual 44, 3) := by decide +kernel
theorem dL_law_374 : decode cL_law 374 = .ok (.if_icmp .eq 524, 3) := by decide +kernel
theorem dL_law_379 : decode cL_law 379 = .ok (.aload_n 1, 1) := by decide +kernel
theorem dL_law_380 : decode cL_law 380 = .ok (.invokevirtual 45, 3) := by decide +kernel
theorem dL_law_383 : decode cL_law 383 = .ok (.aload_n 2, 1) := by decide +kernel
theorem dL_law_384 : decode cL_law 384 = .ok (.invokevirtual 48, 3) := by decide +kernel
theorem dL_law_387 : decode cL_law 387 = .ok (.if_icmp .eq 511, 3) := by decide +kernel
theorem dL_law_392 : decode cL_law 392 = .ok (.aload_n 1, 1) := by decide +kernel
theorem dL_law_393 : decode cL_law 393 = .ok (.aload_n 0, 1) := by decide +kernel
theorem dL_law_394 : decode cL_law 394 = .ok (.iload_n 3, 1) := by decide +kernel
theorem dL_law_395 : decode cL_law 395 = .ok (.iconst 1, 1) := by decide +kernel
theorem dL_law_396 : decode cL_law 396 = .ok (.iadd, 1) := by decide +kernel
theorem dL_law_397 : decode cL_law 397 = .ok (.iaload, 1) := by decide +kernel
theorem dL_law_398 : decode cL_law 398 = .ok (.aload_n 0, 1) := by decide +kernel
theorem dL_law_399 : decode cL_law 399 = .ok (.iload_n 3, 1) := by decide +kernel
theorem dL_law_400 : decode cL_law 400 = .ok (.iconst 2, 1) := by decide +kernel
theorem dL_law_401 : decode cL_law 401 = .ok (.iadd, 1) := by decide +kernel
theorem dL_law_402 : decode cL_law 402 = .ok (.iaload, 1) := by decide +kernel
theorem dL_law_403 : decode cL_law 403 = .ok (.aload_n 0, 1) := by decide +kernel
theorem dL_law_404 : decode cL_law 404 = .ok (.iload_n 3, 1) := by decide +kernel
theorem dL_law_405 : decode cL_law 405 = .ok (.iconst 3, 1) := by decide +kernel
theorem dL_law_406 : decode cL_law 406 = .ok (.iadd, 1) := by decide +kernel
theorem dL_law_407 : decode cL_law 407 = .ok (.iaload, 1) := by decide +kernel
theorem dL_law_408 : decode cL_law 408 = .ok (.invokevirtual 49, 3) := by decide +kernel
theorem dL_law_411 : decode cL_law 411 = .ok (.aload_n 2, 1) := by decide +kernel
theorem dL_law_412 : decode cL_law 412 = .ok (.aload_n 0, 1) := by decide +kernel
theorem dL_law_413 : decode cL_law 413 = .ok (.iload_n 3, 1) := by decide +kernel
theorem dL_law_414 : decode cL_law 414 = .ok (.iconst 1, 1) := by decide +kernel
theorem dL_law_415 : decode cL_law 415 = .ok (.iadd, 1) := by decide +kernel
theorem dL_law_416 : decode cL_law 416 = .ok (.iaload, 1) := by decide +kernel
theorem dL_law_417 : decode cL_law 417 = .ok (.aload_n 0, 1) := by decide +kernel
theorem dL_law_418 : decode cL_law 418 = .ok (.iload_n 3, 1) := by decide +kernel
theorem dL_law_419 : decode cL_law 419 = .ok (.iconst 2, 1) := by decide +kernel
theorem dL_law_420 : decode cL_law 420 = .ok (.iadd, 1) := by decide +kernel
theorem dL_law_421 : decode cL_law 421 = .ok (.iaload, 1) := by decide +kernel
theorem dL_law_422 : decode cL_law 422 = .ok (.aload_n 0, 1) := by decide +kernel
theorem dL_law_423 : decode cL_law 423 = .ok (.iload_n 3, 1) := by decide +kernel
theorem dL_law_424 : decode cL_law 424 = .ok (.iconst 3, 1) := by decide +kernel
theorem dL_law_425 : decode cL_law 425 = .ok (.iadd, 1) := by decide +kernel
theorem dL_law_426 : decode cL_law 426 = .ok (.iaload, 1) := by decide +kernel
theorem dL_law_427 : decode cL_law 427 = .ok (.invokevirtual 52, 3) := by decide +kernel
theorem dL_law_430 : decode cL_law 430 = .ok (.if_icmp .eq 468, 3) := by decide +kernel
theorem dL_law_435 : decode cL_law 435 = .ok (.aload_n 1, 1) := by decide +kernel
theorem dL_law_436 : decode cL_law 436 = .ok (.aload_n 0, 1) := by decide +kernel
theorem dL_law_437 : decode cL_law 437 = .ok (.iload_n 3, 1) := by decide +kernel
theorem dL_law_438 : decode cL_law 438 = .ok (.iconst 1, 1) := by decide +kernel
theorem dL_law_439 : decode cL_law 439 = .ok (.iadd, 1) := by decide +kernel
theorem dL_law_440 : decode cL_law 440 = .ok (.iaload, 1) := by decide +kernel
theorem dL_law_441 : decode cL_law 441 = .ok (.aload_n 0, 1) := by decide +kernel
theorem dL_law_442 : decode cL_law 442 = .ok (.iload_n 3, 1) := by decide +kernel
theorem dL_law_443 : decode cL_law 443 = .ok (.iconst 2, 1) := by decide +kernel
theorem dL_law_444 : decode cL_law 444 = .ok (.iadd, 1) := by decide +kernel
theorem dL_law_445 : decode cL_law 445 = .ok (.iaload, 1) := by decide +kernel
theorem dL_law_446 : decode cL_law 446 = .ok (.aload_n 0, 1) := by decide +kernel
theorem dL_law_447 : decode cL_law 447 = .ok (.iload_n 3, 1) := by decide +kernel
theorem dL_law_448 : decode cL_law 448 = .ok (.iconst 3, 1) := by decide +kernel
theorem dL_law_449 : decode cL_law 449 = .ok (.iadd, 1) := by decide +kernel
theorem dL_law_450 : decode cL_law 450 = .ok (.iaload, 1) := by decide +kernel
theorem dL_law_451 : decode cL_law 451 = .ok (.invokevirtual 53, 3) := by decide +kernel
theorem dL_law_454 : decode cL_law 454 = .ok (.aload_n 2, 1) := by decide +kernel
theorem dL_law_455 : decode cL_law 455 = .ok (.aload_n 0, 1) := by decide +kernel
theorem dL_law_456 : decode cL_law 456 = .ok (.iload_n 3, 1) := by decide +kernel
theorem dL_law_457 : decode cL_law 457 = .ok (.iconst 1, 1) := by decide +kernel
theorem dL_law_458 : decode cL_law 458 = .ok (.iadd, 1) := by decide +kernel
theorem dL_law_459 : decode cL_law 459 = .ok (.iaload, 1) := by decide +kernel
theorem dL_law_460 : decode cL_law 460 = .ok (.aload_n 0, 1) := by decide +kernel
theorem dL_law_461 : decode cL_law 461 = .ok (.iload_n 3, 1) := by decide +kernel
theorem dL_law_462 : decode cL_law 462 = .ok (.iconst 2, 1) := by decide +kernel
theorem dL_law_463 : decode cL_law 463 = .ok (.iadd, 1) := by decide +kernel
theorem dL_law_464 : decode cL_law 464 = .ok (.iaload, 1) := by decide +kernel
theorem dL_law_465 : decode cL_law 465 = .ok (.aload_n 0, 1) := by decide +kernel
theorem dL_law_466 : decode cL_law 466 = .ok (.iload_n 3, 1) := by decide +kernel
theorem dL_law_467 : decode cL_law 467 = .ok (.iconst 3, 1) := by decide +kernel
theorem dL_law_468 : decode cL_law 468 = .ok (.iadd, 1) := by decide +kernel
theorem dL_law_469 : decode cL_law 469 = .ok (.iaload, 1) := by decide +kernel
theorem dL_law_470 : decode cL_law 470 = .ok (.invokevirtual 56, 3) := by decide +kernel
theorem dL_law_473 : decode cL_law 473 = .ok (.if_icmp .eq 425, 3) := by decide +kernel
theorem dL_law_478 : decode cL_law 478 = .ok (.aload_n 1, 1) := by decide +kernel
theorem dL_law_479 : decode cL_law 479 = .ok (.aload_n 0, 1) := by decide +kernel
theorem dL_law_480 : decode cL_law 480 = .ok (.iload_n 3, 1) := by decide +kernel
theorem dL_law_481 : decode cL_law 481 = .ok (.iconst 1, 1) := by decide +kernel
theorem dL_law_482 : decode cL_law 482 = .ok (.iadd, 1) := by decide +kernel
theorem dL_law_483 : decode cL_law 483 = .ok (.iaload, 1) := by decide +kernel
theorem dL_law_484 : decode cL_law 484 = .ok (.invokevirtual 57, 3) := by decide +kernel
theorem dL_law_487 : decode cL_law 487 = .ok (.aload_n 2, 1) := by decide +kernel
theorem dL_law_488 : decode cL_law 488 = .ok (.aload_n 0, 1) := by decide +kernel
theorem dL_law_489 : decode cL_law 489 = .ok (.iload_n 3, 1) := by decide +kernel
theorem dL_law_490 : decode cL_law 490 = .ok (.iconst 1, 1) := by decide +kernel
theorem dL_law_491 : decode cL_law 491 = .ok (.iadd, 1) := by decide +kernel
theorem dL_law_492 : decode cL_law 492 = .ok (.iaload, 1) := by decide +kernel
theorem dL_law_493 : decode cL_law 493 = .ok (.invokevirtual 60, 3) := by decide +kernel
theorem dL_law_496 : decode cL_law 496 = .ok (.if_icmp .eq 402, 3) := by decide +kernel
theorem dL_law_501 : decode cL_law 501 = .ok (.aload_n 1, 1) := by decide +kernel
theorem dL_law_502 : decode cL_law 502 = .ok (.aload_n 0, 1) := by decide +kernel
theorem dL_law_503 : decode cL_law 503 = .ok (.iload_n 3, 1) := by decide +kernel
theorem dL_law_504 : decode cL_law 504 = .ok (.iconst 1, 1) := by decide +kernel
theorem dL_law_505 : decode cL_law 505 = .ok (.iadd, 1) := by decide +kernel
theorem dL_law_506 : decode cL_law 506 = .ok (.iaload, 1) := by decide +kernel
theorem dL_law_507 : decode cL_law 507 = .ok (.aload_n 0, 1) := by decide +kernel
theorem dL_law_508 : decode cL_law 508 = .ok (.iload_n 3, 1) := by decide +kernel
theorem dL_law_509 : decode cL_law 509 = .ok (.iconst 2, 1) := by decide +kernel
theorem dL_law_510 : decode cL_law 510 = .ok (.iadd, 1) := by decide +kernel
theorem dL_law_511 : decode cL_law 511 = .ok (.iaload, 1) := by decide +kernel
theorem dL_law_512 : decode cL_law 512 = .ok (.aload_n 0, 1) := by decide +kernel
theorem dL_law_513 : decode cL_law 513 = .ok (.iload_n 3, 1) := by decide +kernel
theorem dL_law_514 : decode cL_law 514 = .ok (.iconst 3, 1) := by decide +kernel
theorem dL_law_515 : decode cL_law 515 = .ok (.iadd, 1) := by decide +kernel
theorem dL_law_516 : decode cL_law 516 = .ok (.iaload, 1) := by decide +kernel
theorem dL_law_517 : decode cL_law 517 = .ok (.aload_n 0, 1) := by decide +kernel
theorem dL_law_518 : decode cL_law 518 = .ok (.iload_n 3, 1) := by decide +kernel
theorem dL_law_519 : decode cL_law 519 = .ok (.iconst 4, 1) := by decide +kernel
theorem dL_law_520 : decode cL_law 520 = .ok (.iadd, 1) := by decide +kernel
theorem dL_law_521 : decode cL_law 521 = .ok (.iaload, 1) := by decide +kernel
theorem dL_law_522 : decode cL_law 522 = .ok (.invokevirtual 61, 3) := by decide +kernel
theorem dL_law_525 : decode cL_law 525 = .ok (.aload_n 2, 1) := by decide +kernel
theorem dL_law_526 : decode cL_law 526 = .ok (.aload_n 0, 1) := by decide +kernel
theorem dL_law_527 : decode cL_law 527 = .ok (.iload_n 3, 1) := by decide +kernel
theorem dL_law_528 : decode cL_law 528 = .ok (.iconst 1, 1) := by decide +kernel
theorem dL_law_529 : decode cL_law 529 = .ok (.iadd, 1) := by decide +kernel
theorem dL_law_530 : decode cL_law 530 = .ok (.iaload, 1) := by decide +kernel
theorem dL_law_531 : decode cL_law 531 = .ok (.aload_n 0, 1) := by decide +kernel
theorem dL_law_532 : decode cL_law 532 = .ok (.iload_n 3, 1) := by decide +kernel
theorem dL_law_533 : decode cL_law 533 = .ok (.iconst 2, 1) := by decide +kernel
theorem dL_law_534 : decode cL_law 534 = .ok (.iadd, 1) := by decide +kernel
theorem dL_law_535 : decode cL_law 535 = .ok (.iaload, 1) := by decide +kernel
theorem dL_law_536 : decode cL_law 536 = .ok (.aload_n 0, 1) := by decide +kernel
theorem dL_law_537 : decode cL_law 537 = .ok (.iload_n 3, 1) := by decide +kernel
theorem dL_law_538 : decode cL_law 538 = .ok (.iconst 3, 1) := by decide +kernel
theorem dL_law_539 : decode cL_law 539 = .ok (.iadd, 1) := by decide +kernel
theorem dL_law_540 : decode cL_law 540 = .ok (.iaload, 1) := by decide +kernel
theorem dL_law_541 : decode cL_law 541 = .ok (.aload_n 0, 1) := by decide +kernel
theorem dL_law_542 : decode cL_law 542 = .ok (.iload_n 3, 1) := by decide +kernel
theorem dL_law_543 : decode cL_law 543 = .ok (.iconst 4, 1) := by decide +kernel
theorem dL_law_544 : decode cL_law 544 = .ok (.iadd, 1) := by decide +kernel
theorem dL_law_545 : decode cL_law 545 = .ok (.iaload, 1) := by decide +kernel
theorem dL_law_546 : decode cL_law 546 = .ok (.invokevirtual 65, 3) := by decide +kernel
theorem dL_law_549 : decode cL_law 549 = .ok (.if_icmp .eq 349, 3) := by decide +kernel
theorem dL_law_554 : decode cL_law 554 = .ok (.aload_n 1, 1) := by decide +kernel
theorem dL_law_555 : decode cL_law 555 = .ok (.aload_n 0, 1) := by decide +kernel
theorem dL_law_556 : decode cL_law 556 = .ok (.iload_n 3, 1) := by decide +kernel
theorem dL_law_557 : decode cL_law 557 = .ok (.iconst 1, 1) := by decide +kernel
theorem dL_law_558 : decode cL_law 558 = .ok (.iadd, 1) := by decide +kernel
theorem dL_law_559 : decode cL_law 559 = .ok (.iaload, 1) := by decide +kernel
theorem dL_law_560 : decode cL_law 560 = .ok (.invokevirtual 66, 3) := by decide +kernel
theorem dL_law_563 : decode cL_law 563 = .ok (.aload_n 2, 1) := by decide +kernel
theorem dL_law_564 : decode cL_law 564 = .ok (.aload_n 0, 1) := by decide +kernel
theorem dL_law_565 : decode cL_law 565 = .ok (.iload_n 3, 1) := by decide +kernel
theorem dL_law_566 : decode cL_law 566 = .ok (.iconst 1, 1) := by decide +kernel
theorem dL_law_567 : decode cL_law 567 = .ok (.iadd, 1) := by decide +kernel
theorem dL_law_568 : decode cL_law 568 = .ok (.iaload, 1) := by decide +kernel
theorem dL_law_569 : decode cL_law 569 = .ok (.invokevirtual 69, 3) := by decide +kernel
theorem dL_law_572 : decode cL_law 572 = .ok (.if_icmp .eq 326, 3) := by decide +kernel
theorem dL_law_577 : decode cL_law 577 = .ok (.aload_n 1, 1) := by decide +kernel
theorem dL_law_578 : decode cL_law 578 = .ok (.invokevirtual 70, 3) := by decide +kernel
theorem dL_law_581 : decode cL_law 581 = .ok (.aload_n 2, 1) := by decide +kernel
theorem dL_law_582 : decode cL_law 582 = .ok (.invokevirtual 73, 3) := by decide +kernel
theorem dL_law_585 : decode cL_law 585 = .ok (.if_icmp .eq 313, 3) := by decide +kernel
theorem dL_law_590 : decode cL_law 590 = .ok (.aload_n 1, 1) := by decide +kernel
theorem dL_law_591 : decode cL_law 591 = .ok (.invokevirtual 74, 3) := by decide +kernel
theorem dL_law_594 : decode cL_law 594 = .ok (.aload_n 2, 1) := by decide +kernel
theorem dL_law_595 : decode cL_law 595 = .ok (.invokevirtual 77, 3) := by decide +kernel
theorem dL_law_598 : decode cL_law 598 = .ok (.if_icmp .eq 300, 3) := by decide +kernel
theorem dL_law_603 : decode cL_law 603 = .ok (.aload_n 1, 1) := by decide +kernel
theorem dL_law_604 : decode cL_law 604 = .ok (.aload_n 0, 1) := by decide +kernel
theorem dL_law_605 : decode cL_law 605 = .ok (.iload_n 3, 1) := by decide +kernel
theorem dL_law_606 : decode cL_law 606 = .ok (.iconst 1, 1) := by decide +kernel
theorem dL_law_607 : decode cL_law 607 = .ok (.iadd, 1) := by decide +kernel
theorem dL_law_608 : decode cL_law 608 = .ok (.iaload, 1) := by decide +kernel
theorem dL_law_609 : decode cL_law 609 = .ok (.invokevirtual 78, 3) := by decide +kernel
theorem dL_law_612 : decode cL_law 612 = .ok (.aload_n 2, 1) := by decide +kernel
theorem dL_law_613 : decode cL_law 613 = .ok (.aload_n 0, 1) := by decide +kernel
theorem dL_law_614 : decode cL_law 614 = .ok (.iload_n 3, 1) := by decide +kernel
theorem dL_law_615 : decode cL_law 615 = .ok (.iconst 1, 1) := by decide +kernel
theorem dL_law_616 : decode cL_law 616 = .ok (.iadd, 1) := by decide +kernel
theorem dL_law_617 : decode cL_law 617 = .ok (.iaload, 1) := by decide +kernel
theorem dL_law_618 : decode cL_law 618 = .ok (.invokevirtual 81, 3) := by decide +kernel
theorem dL_law_621 : decode cL_law 621 = .ok (.if_icmp .eq 277, 3) := by decide +kernel
theorem dL_law_626 : decode cL_law 626 = .ok (.aload_n 1, 1) := by decide +kernel
theorem dL_law_627 : decode cL_law 627 = .ok (.aload_n 0, 1) := by decide +kernel
theorem dL_law_628 : decode cL_law 628 = .ok (.iload_n 3, 1) := by decide +kernel
theorem dL_law_629 : decode cL_law 629 = .ok (.iconst 1, 1) := by decide +kernel
theorem dL_law_630 : decode cL_law 630 = .ok (.iadd, 1) := by decide +kernel
theorem dL_law_631 : decode cL_law 631 = .ok (.iaload, 1) := by decide +kernel
theorem dL_law_632 : decode cL_law 632 = .ok (.invokevirtual 82, 3) := by decide +kernel
theorem dL_law_635 : decode cL_law 635 = .ok (.aload_n 2, 1) := by decide +kernel
theorem dL_law_636 : decode cL_law 636 = .ok (.aload_n 0, 1) := by decide +kernel
theorem dL_law_637 : decode cL_law 637 = .ok (.iload_n 3, 1) := by decide +kernel
theorem dL_law_638 : decode cL_law 638 = .ok (.iconst 1, 1) := by decide +kernel
theorem dL_law_639 : decode cL_law 639 = .ok (.iadd, 1) := by decide +kernel
theorem dL_law_640 : decode cL_law 640 = .ok (.iaload, 1) := by decide +kernel
theorem dL_law_641 : decode cL_law 641 = .ok (.invokevirtual 85, 3) := by decide +kernel
theorem dL_law_644 : decode cL_law 644 = .ok (.if_icmp .eq 254, 3) := by decide +kernel
theorem dL_law_649 : decode cL_law 649 = .ok (.aload_n 1, 1) := by decide +kernel
theorem dL_law_650 : decode cL_law 650 = .ok (.aload_n 0, 1) := by decide +kernel
theorem dL_law_651 : decode cL_law 651 = .ok (.iload_n 3, 1) := by decide +kernel
theorem dL_law_652 : decode cL_law 652 = .ok (.iconst 1, 1) := by decide +kernel
theorem dL_law_653 : decode cL_law 653 = .ok (.iadd, 1) := by decide +kernel
theorem dL_law_654 : decode cL_law 654 = .ok (.iaload, 1) := by decide +kernel
theorem dL_law_655 : decode cL_law 655 = .ok (.invokevirtual 86, 3) := by decide +kernel
theorem dL_law_658 : decode cL_law 658 = .ok (.aload_n 2, 1) := by decide +kernel
theorem dL_law_659 : decode cL_law 659 = .ok (.aload_n 0, 1) := by decide +kernel
theorem dL_law_660 : decode cL_law 660 = .ok (.iload_n 3, 1) := by decide +kernel
theorem dL_law_661 : decode cL_law 661 = .ok (.iconst 1, 1) := by decide +kernel
theorem dL_law_662 : decode cL_law 662 = .ok (.iadd, 1) := by decide +kernel
theorem dL_law_663 : decode cL_law 663 = .ok (.iaload, 1) := by decide +kernel
theorem dL_law_664 : decode cL_law 664 = .ok (.invokevirtual 89, 3) := by decide +kernel
theorem dL_law_667 : decode cL_law 667 = .ok (.if_icmp .eq 231, 3) := by decide +kernel
theorem dL_law_672 : decode cL_law 672 = .ok (.aload_n 1, 1) := by decide +kernel
theorem dL_law_673 : decode cL_law 673 = .ok (.invokevirtual 90, 3) := by decide +kernel
theorem dL_law_676 : decode cL_law 676 = .ok (.aload_n 2, 1) := by decide +kernel
theorem dL_law_677 : decode cL_law 677 = .ok (.invokevirtual 93, 3) := by decide +kernel
theorem dL_law_680 : decode cL_law 680 = .ok (.if_icmp .eq 218, 3) := by decide +kernel
theorem dL_law_685 : decode cL_law 685 = .ok (.aload_n 1, 1) := by decide +kernel
theorem dL_law_686 : decode cL_law 686 = .ok (.invokevirtual 94, 3) := by decide +kernel
theorem dL_law_689 : decode cL_law 689 = .ok (.aload_n 2, 1) := by decide +kernel
theorem dL_law_690 : decode cL_law 690 = .ok (.invokevirtual 97, 3) := by decide +kernel
theorem dL_law_693 : decode cL_law 693 = .ok (.if_icmp .eq 205, 3) := by decide +kernel
theorem dL_law_698 : decode cL_law 698 = .ok (.aload_n 1, 1) := by decide +kernel
theorem dL_law_699 : decode cL_law 699 = .ok (.aload_n 0, 1) := by decide +kernel
theorem dL_law_700 : decode cL_law 700 = .ok (.iload_n 3, 1) := by decide +kernel
theorem dL_law_701 : decode cL_law 701 = .ok (.iconst 1, 1) := by decide +kernel
theorem dL_law_702 : decode cL_law 702 = .ok (.iadd, 1) := by decide +kernel
theorem dL_law_703 : decode cL_law 703 = .ok (.iaload, 1) := by decide +kernel
theorem dL_law_704 : decode cL_law 704 = .ok (.invokevirtual 98, 3) := by decide +kernel
theorem dL_law_707 : decode cL_law 707 = .ok (.aload_n 2, 1) := by decide +kernel
theorem dL_law_708 : decode cL_law 708 = .ok (.aload_n 0, 1) := by decide +kernel
theorem dL_law_709 : decode cL_law 709 = .ok (.iload_n 3, 1) := by decide +kernel
theorem dL_law_710 : decode cL_law 710 = .ok (.iconst 1, 1) := by decide +kernel
theorem dL_law_711 : decode cL_law 711 = .ok (.iadd, 1) := by decide +kernel
theorem dL_law_712 : decode cL_law 712 = .ok (.iaload, 1) := by decide +kernel
theorem dL_law_713 : decode cL_law 713 = .ok (.invokevirtual 101, 3) := by decide +kernel
theorem dL_law_716 : decode cL_law 716 = .ok (.if_icmp .eq 182, 3) := by decide +kernel
theorem dL_law_721 : decode cL_law 721 = .ok (.aload_n 1, 1) := by decide +kernel
theorem dL_law_722 : decode cL_law 722 = .ok (.invokevirtual 102, 3) := by decide +kernel
theorem dL_law_725 : decode cL_law 725 = .ok (.aload_n 2, 1) := by decide +kernel
theorem dL_law_726 : decode cL_law 726 = .ok (.invokevirtual 105, 3) := by decide +kernel
theorem dL_law_729 : decode cL_law 729 = .ok (.if_icmp .eq 169, 3) := by decide +kernel
theorem dL_law_734 : decode cL_law 734 = .ok (.aload_n 1, 1) := by decide +kernel
theorem dL_law_735 : decode cL_law 735 = .ok (.aload_n 0, 1) := by decide +kernel
theorem dL_law_736 : decode cL_law 736 = .ok (.iload_n 3, 1) := by decide +kernel
theorem dL_law_737 : decode cL_law 737 = .ok (.iconst 1, 1) := by decide +kernel
theorem dL_law_738 : decode cL_law 738 = .ok (.iadd, 1) := by decide +kernel
theorem dL_law_739 : decode cL_law 739 = .ok (.iaload, 1) := by decide +kernel
theorem dL_law_740 : decode cL_law 740 = .ok (.aload_n 0, 1) := by decide +kernel
theorem dL_law_741 : decode cL_law 741 = .ok (.iload_n 3, 1) := by decide +kernel
theorem dL_law_742 : decode cL_law 742 = .ok (.iconst 2, 1) := by decide +kernel
theorem dL_law_743 : decode cL_law 743 = .ok (.iadd, 1) := by decide +kernel
theorem dL_law_744 : decode cL_law 744 = .ok (.iaload, 1) := by decide +kernel
theorem dL_law_745 : decode cL_law 745 = .ok (.aload_n 0, 1) := by decide +kernel
theorem dL_law_746 : decode cL_law 746 = .ok (.iload_n 3, 1) := by decide +kernel
theorem dL_law_747 : decode cL_law 747 = .ok (.iconst 3, 1) := by decide +kernel
theorem dL_law_748 : decode cL_law 748 = .ok (.iadd, 1) := by decide +kernel
theorem dL_law_749 : decode cL_law 749 = .ok (.iaload, 1) := by decide +kernel
theorem dL_law_750 : decode cL_law 750 = .ok (.invokevirtual 106, 3) := by decide +kernel
theorem dL_law_753 : decode cL_law 753 = .ok (.aload_n 2, 1) := by decide +kernel
theorem dL_law_754 : decode cL_law 754 = .ok (.aload_n 0, 1) := by decide +kernel
theorem dL_law_755 : decode cL_law 755 = .ok (.iload_n 3, 1) := by decide +kernel
theorem dL_law_756 : decode cL_law 756 = .ok (.iconst 1, 1) := by decide +kernel
theorem dL_law_757 : decode cL_law 757 = .ok (.iadd, 1) := by decide +kernel
theorem dL_law_758 : decode cL_law 758 = .ok (.iaload, 1) := by decide +kernel
theorem dL_law_759 : decode cL_law 759 = .ok (.aload_n 0, 1) := by decide +kernel
theorem dL_law_760 : decode cL_law 760 = .ok (.iload_n 3, 1) := by decide +kernel
theorem dL_law_761 : decode cL_law 761 = .ok (.iconst 2, 1) := by decide +kernel
theorem dL_law_762 : decode cL_law 762 = .ok (.iadd, 1) := by decide +kernel
theorem dL_law_763 : decode cL_law 763 = .ok (.iaload, 1) := by decide +kernel
theorem dL_law_764 : decode cL_law 764 = .ok (.aload_n 0, 1) := by decide +kernel
theorem dL_law_765 : decode cL_law 765 = .ok (.iload_n 3, 1) := by decide +kernel
theorem dL_law_766 : decode cL_law 766 = .ok (.iconst 3, 1) := by decide +kernel
theorem dL_law_767 : decode cL_law 767 = .ok (.iadd, 1) := by decide +kernel
theorem dL_law_768 : decode cL_law 768 = .ok (.iaload, 1) := by decide +kernel
theorem dL_law_769 : decode cL_law 769 = .ok (.invokevirtual 109, 3) := by decide +kernel
theorem dL_law_772 : decode cL_law 772 = .ok (.if_icmp .eq 126, 3) := by decide +kernel
theorem dL_law_777 : decode cL_law 777 = .ok (.aload_n 1, 1) := by decide +kernel
theorem dL_law_778 : decode cL_law 778 = .ok (.invokevirtual 110, 3) := by decide +kernel
theorem dL_law_781 : decode cL_law 781 = .ok (.aload_n 2, 1) := by decide +kernel
theorem dL_law_782 : decode cL_law 782 = .ok (.invokevirtual 113, 3) := by decide +kernel
theorem dL_law_785 : decode cL_law 785 = .ok (.if_icmp .eq 113, 3) := by decide +kernel
theorem dL_law_790 : decode cL_law 790 = .ok (.aload_n 1, 1) := by decide +kernel
theorem dL_law_791 : decode cL_law 791 = .ok (.aload_n 0, 1) := by decide +kernel
theorem dL_law_792 : decode cL_law 792 = .ok (.iload_n 3, 1) := by decide +kernel
theorem dL_law_793 : decode cL_law 793 = .ok (.iconst 1, 1) := by decide +kernel
theorem dL_law_794 : decode cL_law 794 = .ok (.iadd, 1) := by decide +kernel
theorem dL_law_795 : decode cL_law 795 = .ok (.iaload, 1) := by decide +kernel
theorem dL_law_796 : decode cL_law 796 = .ok (.invokevirtual 114, 3) := by decide +kernel
theorem dL_law_799 : decode cL_law 799 = .ok (.aload_n 2, 1) := by decide +kernel
theorem dL_law_800 : decode cL_law 800 = .ok (.aload_n 0, 1) := by decide +kernel
theorem dL_law_801 : decode cL_law 801 = .ok (.iload_n 3, 1) := by decide +kernel
theorem dL_law_802 : decode cL_law 802 = .ok (.iconst 1, 1) := by decide +kernel
theorem dL_law_803 : decode cL_law 803 = .ok (.iadd, 1) := by decide +kernel
theorem dL_law_804 : decode cL_law 804 = .ok (.iaload, 1) := by decide +kernel
theorem dL_law_805 : decode cL_law 805 = .ok (.invokevirtual 117, 3) := by decide +kernel
theorem dL_law_808 : decode cL_law 808 = .ok (.if_icmp .eq 90, 3) := by decide +kernel
theorem dL_law_813 : decode cL_law 813 = .ok (.aload_n 1, 1) := by decide +kernel
theorem dL_law_814 : decode cL_law 814 = .ok (.invokevirtual 118, 3) := by decide +kernel
theorem dL_law_817 : decode cL_law 817 = .ok (.aload_n 2, 1) := by decide +kernel
theorem dL_law_818 : decode cL_law 818 = .ok (.invokevirtual 121, 3) := by decide +kernel
theorem dL_law_821 : decode cL_law 821 = .ok (.if_icmp .eq 77, 3) := by decide +kernel
theorem dL_law_826 : decode cL_law 826 = .ok (.aload_n 1, 1) := by decide +kernel
theorem dL_law_827 : decode cL_law 827 = .ok (.aload_n 0, 1) := by decide +kernel
theorem dL_law_828 : decode cL_law 828 = .ok (.iload_n 3, 1) := by decide +kernel
theorem dL_law_829 : decode cL_law 829 = .ok (.iconst 1, 1) := by decide +kernel
theorem dL_law_830 : decode cL_law 830 = .ok (.iadd, 1) := by decide +kernel
theorem dL_law_831 : decode cL_law 831 = .ok (.iaload, 1) := by decide +kernel
theorem dL_law_832 : decode cL_law 832 = .ok (.invokevirtual 122, 3) := by decide +kernel
theorem dL_law_835 : decode cL_law 835 = .ok (.aload_n 2, 1) := by decide +kernel
theorem dL_law_836 : decode cL_law 836 = .ok (.aload_n 0, 1) := by decide +kernel
theorem dL_law_837 : decode cL_law 837 = .ok (.iload_n 3, 1) := by decide +kernel
theorem dL_law_838 : decode cL_law 838 = .ok (.iconst 1, 1) := by decide +kernel
theorem dL_law_839 : decode cL_law 839 = .ok (.iadd, 1) := by decide +kernel
theorem dL_law_840 : decode cL_law 840 = .ok (.iaload, 1) := by decide +kernel
theorem dL_law_841 : decode cL_law 841 = .ok (.invokevirtual 125, 3) := by decide +kernel
theorem dL_law_844 : decode cL_law 844 = .ok (.if_icmp .eq 54, 3) := by decide +kernel
theorem dL_law_849 : decode cL_law 849 = .ok (.aload_n 1, 1) := by decide +kernel
theorem dL_law_850 : decode cL_law 850 = .ok (.invokevirtual 126, 3) := by decide +kernel
theorem dL_law_853 : decode cL_law 853 = .ok (.aload_n 2, 1) := by decide +kernel
theorem dL_law_854 : decode cL_law 854 = .ok (.invokevirtual 129, 3) := by decide +kernel
theorem dL_law_857 : decode cL_law 857 = .ok (.if_icmp .eq 41, 3) := by decide +kernel
theorem dL_law_862 : decode cL_law 862 = .ok (.aload_n 1, 1) := by decide +kernel
theorem dL_law_863 : decode cL_law 863 = .ok (.invokevirtual 130, 3) := by decide +kernel
theorem dL_law_866 : decode cL_law 866 = .ok (.aload_n 2, 1) := by decide +kernel
theorem dL_law_867 : decode cL_law 867 = .ok (.invokevirtual 133, 3) := by decide +kernel
theorem dL_law_870 : decode cL_law 870 = .ok (.if_icmp .eq 28, 3) := by decide +kernel
theorem dL_law_875 : decode cL_law 875 = .ok (.aload_n 1, 1) := by decide +kernel
theorem dL_law_876 : decode cL_law 876 = .ok (.aload_n 0, 1) := by decide +kernel
theorem dL_law_877 : decode cL_law 877 = .ok (.iload_n 3, 1) := by decide +kernel
theorem dL_law_878 : decode cL_law 878 = .ok (.iconst 1, 1) := by decide +kernel
theorem dL_law_879 : decode cL_law 879 = .ok (.iadd, 1) := by decide +kernel
theorem dL_law_880 : decode cL_law 880 = .ok (.iaload, 1) := by decide +kernel
theorem dL_law_881 : decode cL_law 881 = .ok (.invokevirtual 134, 3) := by decide +kernel
theorem dL_law_884 : decode cL_law 884 = .ok (.aload_n 2, 1) := by decide +kernel
theorem dL_law_885 : decode cL_law 885 = .ok (.aload_n 0, 1) := by decide +kernel
theorem dL_law_886 : decode cL_law 886 = .ok (.iload_n 3, 1) := by decide +kernel
theorem dL_law_887 : decode cL_law 887 = .ok (.iconst 1, 1) := by decide +kernel
theorem dL_law_888 : decode cL_law 888 = .ok (.iadd, 1) := by decide +kernel
theorem dL_law_889 : decode cL_law 889 = .ok (.iaload, 1) := by decide +kernel
theorem dL_law_890 : decode cL_law 890 = .ok (.invokevirtual 137, 3) := by decide +kernel
theorem dL_law_893 : decode cL_law 893 = .ok (.if_icmp .eq 5, 3) := by decide +kernel
theorem dL_law_898 : decode cL_law 898 = .ok (.iinc 3 5, 3) := by decide +kernel
theorem dL_law_901 : decode cL_law 901 = .ok (.goto (-883), 3) := by decide +kernel
theorem dL_law_904 : decode cL_law 904 = .ok (.iconst 1, 1) := by decide +kernel
theorem dL_law_905 : decode cL_law 905 = .ok (.ireturn, 1) := by decide +kernel
