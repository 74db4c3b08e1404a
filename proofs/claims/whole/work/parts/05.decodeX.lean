theorem dX0_init_0 : decode cX0_init 0 = .ok (.aload_n 0, 1) := by decide +kernel
theorem dX0_init_1 : decode cX0_init 1 = .ok (.invokespecial 1, 3) := by decide +kernel
theorem dX0_init_4 : decode cX0_init 4 = .ok (.aload_n 0, 1) := by decide +kernel
theorem dX0_init_5 : decode cX0_init 5 = .ok (.sipush 600, 3) := by decide +kernel
theorem dX0_init_8 : decode cX0_init 8 = .ok (.newarray .int, 2) := by decide +kernel
theorem dX0_init_10 : decode cX0_init 10 = .ok (.putfield 9, 3) := by decide +kernel
theorem dX0_init_13 : decode cX0_init 13 = .ok (.aload_n 0, 1) := by decide +kernel
theorem dX0_init_14 : decode cX0_init 14 = .ok (.sipush 600, 3) := by decide +kernel
theorem dX0_init_17 : decode cX0_init 17 = .ok (.newarray .long, 2) := by decide +kernel
theorem dX0_init_19 : decode cX0_init 19 = .ok (.putfield 13, 3) := by decide +kernel
theorem dX0_init_22 : decode cX0_init 22 = .ok (.aload_n 0, 1) := by decide +kernel
theorem dX0_init_23 : decode cX0_init 23 = .ok (.sipush 600, 3) := by decide +kernel
theorem dX0_init_26 : decode cX0_init 26 = .ok (.newarray .boolean, 2) := by decide +kernel
theorem dX0_init_28 : decode cX0_init 28 = .ok (.putfield 17, 3) := by decide +kernel
theorem dX0_init_31 : decode cX0_init 31 = .ok (.aload_n 0, 1) := by decide +kernel
theorem dX0_init_32 : decode cX0_init 32 = .ok (.bipush 40, 2) := by decide +kernel
theorem dX0_init_34 : decode cX0_init 34 = .ok (.newarray .int, 2) := by decide +kernel
theorem dX0_init_36 : decode cX0_init 36 = .ok (.putfield 21, 3) := by decide +kernel
theorem dX0_init_39 : decode cX0_init 39 = .ok (.return_, 1) := by decide +kernel
theorem dX0_literal_0 : decode cX0_literal 0 = .ok (.iload_n 1, 1) := by decide +kernel
theorem dX0_literal_1 : decode cX0_literal 1 = .ok (.ifCond .eq 15, 3) := by decide +kernel
theorem dX0_literal_4 : decode cX0_literal 4 = .ok (.iload_n 1, 1) := by decide +kernel
theorem dX0_literal_5 : decode cX0_literal 5 = .ok (.bipush (-16), 2) := by decide +kernel
theorem dX0_literal_7 : decode cX0_literal 7 = .ok (.if_icmp .lt 9, 3) := by decide +kernel
theorem dX0_literal_10 : decode cX0_literal 10 = .ok (.iload_n 1, 1) := by decide +kernel
theorem dX0_literal_11 : decode cX0_literal 11 = .ok (.bipush 16, 2) := by decide +kernel
theorem dX0_literal_13 : decode cX0_literal 13 = .ok (.if_icmp .le 13, 3) := by decide +kernel
theorem dX0_literal_16 : decode cX0_literal 16 = .ok (.new 24, 3) := by decide +kernel
theorem dX0_literal_19 : decode cX0_literal 19 = .ok (.dup, 1) := by decide +kernel
theorem dX0_literal_20 : decode cX0_literal 20 = .ok (.ldc 26, 2) := by decide +kernel
theorem dX0_literal_22 : decode cX0_literal 22 = .ok (.invokespecial 28, 3) := by decide +kernel
theorem dX0_literal_25 : decode cX0_literal 25 = .ok (.athrow, 1) := by decide +kernel
theorem dX0_literal_26 : decode cX0_literal 26 = .ok (.iload_n 1, 1) := by decide +kernel
theorem dX0_literal_27 : decode cX0_literal 27 = .ok (.invokestatic 31, 3) := by decide +kernel
theorem dX0_literal_30 : decode cX0_literal 30 = .ok (.istore_n 2, 1) := by decide +kernel
theorem dX0_literal_31 : decode cX0_literal 31 = .ok (.aload_n 0, 1) := by decide +kernel
theorem dX0_literal_32 : decode cX0_literal 32 = .ok (.getfield 35, 3) := by decide +kernel
theorem dX0_literal_35 : decode cX0_literal 35 = .ok (.aload_n 0, 1) := by decide +kernel
theorem dX0_literal_36 : decode cX0_literal 36 = .ok (.getfield 35, 3) := by decide +kernel
theorem dX0_literal_39 : decode cX0_literal 39 = .ok (.invokestatic 39, 3) := by decide +kernel
theorem dX0_literal_42 : decode cX0_literal 42 = .ok (.ior, 1) := by decide +kernel
theorem dX0_literal_43 : decode cX0_literal 43 = .ok (.iload_n 2, 1) := by decide +kernel
theorem dX0_literal_44 : decode cX0_literal 44 = .ok (.iand, 1) := by decide +kernel
theorem dX0_literal_45 : decode cX0_literal 45 = .ok (.ifCond .eq 13, 3) := by decide +kernel
theorem dX0_literal_48 : decode cX0_literal 48 = .ok (.new 24, 3) := by decide +kernel
theorem dX0_literal_51 : decode cX0_literal 51 = .ok (.dup, 1) := by decide +kernel
theorem dX0_literal_52 : decode cX0_literal 52 = .ok (.ldc 42, 2) := by decide +kernel
theorem dX0_literal_54 : decode cX0_literal 54 = .ok (.invokespecial 28, 3) := by decide +kernel
theorem dX0_literal_57 : decode cX0_literal 57 = .ok (.athrow, 1) := by decide +kernel
theorem dX0_literal_58 : decode cX0_literal 58 = .ok (.iload_n 1, 1) := by decide +kernel
theorem dX0_literal_59 : decode cX0_literal 59 = .ok (.ifCond .le 7, 3) := by decide +kernel
theorem dX0_literal_62 : decode cX0_literal 62 = .ok (.iload_n 1, 1) := by decide +kernel
theorem dX0_literal_63 : decode cX0_literal 63 = .ok (.goto 5, 3) := by decide +kernel
theorem dX0_literal_66 : decode cX0_literal 66 = .ok (.iload_n 1, 1) := by decide +kernel
theorem dX0_literal_67 : decode cX0_literal 67 = .ok (.ineg, 1) := by decide +kernel
theorem dX0_literal_68 : decode cX0_literal 68 = .ok (.istore_n 3, 1) := by decide +kernel
theorem dX0_literal_69 : decode cX0_literal 69 = .ok (.aload_n 0, 1) := by decide +kernel
theorem dX0_literal_70 : decode cX0_literal 70 = .ok (.dup, 1) := by decide +kernel
theorem dX0_literal_71 : decode cX0_literal 71 = .ok (.getfield 44, 3) := by decide +kernel
theorem dX0_literal_74 : decode cX0_literal 74 = .ok (.iload_n 3, 1) := by decide +kernel
theorem dX0_literal_75 : decode cX0_literal 75 = .ok (.iconst 1, 1) := by decide +kernel
theorem dX0_literal_76 : decode cX0_literal 76 = .ok (.isub, 1) := by decide +kernel
theorem dX0_literal_77 : decode cX0_literal 77 = .ok (.i2l, 1) := by decide +kernel
theorem dX0_literal_78 : decode cX0_literal 78 = .ok (.iconst 4, 1) := by decide +kernel
theorem dX0_literal_79 : decode cX0_literal 79 = .ok (.aload_n 0, 1) := by decide +kernel
theorem dX0_literal_80 : decode cX0_literal 80 = .ok (.getfield 35, 3) := by decide +kernel
theorem dX0_literal_83 : decode cX0_literal 83 = .ok (.invokestatic 48, 3) := by decide +kernel
theorem dX0_literal_86 : decode cX0_literal 86 = .ok (.imul, 1) := by decide +kernel
theorem dX0_literal_87 : decode cX0_literal 87 = .ok (.lshl, 1) := by decide +kernel
theorem dX0_literal_88 : decode cX0_literal 88 = .ok (.lor, 1) := by decide +kernel
theorem dX0_literal_89 : decode cX0_literal 89 = .ok (.putfield 44, 3) := by decide +kernel
theorem dX0_literal_92 : decode cX0_literal 92 = .ok (.aload_n 0, 1) := by decide +kernel
theorem dX0_literal_93 : decode cX0_literal 93 = .ok (.dup, 1) := by decide +kernel
theorem dX0_literal_94 : decode cX0_literal 94 = .ok (.getfield 35, 3) := by decide +kernel
theorem dX0_literal_97 : decode cX0_literal 97 = .ok (.iload_n 2, 1) := by decide +kernel
theorem dX0_literal_98 : decode cX0_literal 98 = .ok (.ior, 1) := by decide +kernel
theorem dX0_literal_99 : decode cX0_literal 99 = .ok (.putfield 35, 3) := by decide +kernel
theorem dX0_literal_102 : decode cX0_literal 102 = .ok (.aload_n 0, 1) := by decide +kernel
theorem dX0_literal_103 : decode cX0_literal 103 = .ok (.getfield 35, 3) := by decide +kernel
theorem dX0_literal_106 : decode cX0_literal 106 = .ok (.invokestatic 48, 3) := by decide +kernel
theorem dX0_literal_109 : decode cX0_literal 109 = .ok (.ireturn, 1) := by decide +kernel
theorem dX0_hint_0 : decode cX0_hint 0 = .ok (.iload_n 1, 1) := by decide +kernel
theorem dX0_hint_1 : decode cX0_hint 1 = .ok (.ifCond .lt 10, 3) := by decide +kernel
theorem dX0_hint_4 : decode cX0_hint 4 = .ok (.iload_n 1, 1) := by decide +kernel
theorem dX0_hint_5 : decode cX0_hint 5 = .ok (.sipush 600, 3) := by decide +kernel
theorem dX0_hint_8 : decode cX0_hint 8 = .ok (.if_icmp .lt 13, 3) := by decide +kernel
theorem dX0_hint_11 : decode cX0_hint 11 = .ok (.new 24, 3) := by decide +kernel
theorem dX0_hint_14 : decode cX0_hint 14 = .ok (.dup, 1) := by decide +kernel
theorem dX0_hint_15 : decode cX0_hint 15 = .ok (.ldc 51, 2) := by decide +kernel
theorem dX0_hint_17 : decode cX0_hint 17 = .ok (.invokespecial 28, 3) := by decide +kernel
theorem dX0_hint_20 : decode cX0_hint 20 = .ok (.athrow, 1) := by decide +kernel
theorem dX0_hint_21 : decode cX0_hint 21 = .ok (.aload_n 0, 1) := by decide +kernel
theorem dX0_hint_22 : decode cX0_hint 22 = .ok (.getfield 53, 3) := by decide +kernel
theorem dX0_hint_25 : decode cX0_hint 25 = .ok (.bipush 40, 2) := by decide +kernel
theorem dX0_hint_27 : decode cX0_hint 27 = .ok (.if_icmp .lt 13, 3) := by decide +kernel
theorem dX0_hint_30 : decode cX0_hint 30 = .ok (.new 56, 3) := by decide +kernel
theorem dX0_hint_33 : decode cX0_hint 33 = .ok (.dup, 1) := by decide +kernel
theorem dX0_hint_34 : decode cX0_hint 34 = .ok (.ldc 58, 2) := by decide +kernel
theorem dX0_hint_36 : decode cX0_hint 36 = .ok (.invokespecial 60, 3) := by decide +kernel
theorem dX0_hint_39 : decode cX0_hint 39 = .ok (.athrow, 1) := by decide +kernel
theorem dX0_hint_40 : decode cX0_hint 40 = .ok (.aload_n 0, 1) := by decide +kernel
theorem dX0_hint_41 : decode cX0_hint 41 = .ok (.getfield 21, 3) := by decide +kernel
theorem dX0_hint_44 : decode cX0_hint 44 = .ok (.aload_n 0, 1) := by decide +kernel
theorem dX0_hint_45 : decode cX0_hint 45 = .ok (.getfield 53, 3) := by decide +kernel
theorem dX0_hint_48 : decode cX0_hint 48 = .ok (.iload_n 1, 1) := by decide +kernel
theorem dX0_hint_49 : decode cX0_hint 49 = .ok (.iastore, 1) := by decide +kernel
theorem dX0_hint_50 : decode cX0_hint 50 = .ok (.aload_n 0, 1) := by decide +kernel
theorem dX0_hint_51 : decode cX0_hint 51 = .ok (.dup, 1) := by decide +kernel
theorem dX0_hint_52 : decode cX0_hint 52 = .ok (.getfield 53, 3) := by decide +kernel
theorem dX0_hint_55 : decode cX0_hint 55 = .ok (.iconst 1, 1) := by decide +kernel
theorem dX0_hint_56 : decode cX0_hint 56 = .ok (.iadd, 1) := by decide +kernel
theorem dX0_hint_57 : decode cX0_hint 57 = .ok (.putfield 53, 3) := by decide +kernel
theorem dX0_hint_60 : decode cX0_hint 60 = .ok (.aload_n 0, 1) := by decide +kernel
theorem dX0_hint_61 : decode cX0_hint 61 = .ok (.getfield 53, 3) := by decide +kernel
theorem dX0_hint_64 : decode cX0_hint 64 = .ok (.ireturn, 1) := by decide +kernel
theorem dX0_clear_0 : decode cX0_clear 0 = .ok (.aload_n 0, 1) := by decide +kernel
theorem dX0_clear_1 : decode cX0_clear 1 = .ok (.getfield 35, 3) := by decide +kernel
theorem dX0_clear_4 : decode cX0_clear 4 = .ok (.invokestatic 48, 3) := by decide +kernel
theorem dX0_clear_7 : decode cX0_clear 7 = .ok (.aload_n 0, 1) := by decide +kernel
theorem dX0_clear_8 : decode cX0_clear 8 = .ok (.getfield 53, 3) := by decide +kernel
theorem dX0_clear_11 : decode cX0_clear 11 = .ok (.iadd, 1) := by decide +kernel
theorem dX0_clear_12 : decode cX0_clear 12 = .ok (.istore_n 1, 1) := by decide +kernel
theorem dX0_clear_13 : decode cX0_clear 13 = .ok (.aload_n 0, 1) := by decide +kernel
theorem dX0_clear_14 : decode cX0_clear 14 = .ok (.invokevirtual 61, 3) := by decide +kernel
theorem dX0_clear_17 : decode cX0_clear 17 = .ok (.aload_n 0, 1) := by decide +kernel
theorem dX0_clear_18 : decode cX0_clear 18 = .ok (.iconst 0, 1) := by decide +kernel
theorem dX0_clear_19 : decode cX0_clear 19 = .ok (.putfield 53, 3) := by decide +kernel
theorem dX0_clear_22 : decode cX0_clear 22 = .ok (.iload_n 1, 1) := by decide +kernel
theorem dX0_clear_23 : decode cX0_clear 23 = .ok (.ireturn, 1) := by decide +kernel
theorem dX0_give_0 : decode cX0_give 0 = .ok (.aload_n 0, 1) := by decide +kernel
theorem dX0_give_1 : decode cX0_give 1 = .ok (.invokevirtual 64, 3) := by decide +kernel
theorem dX0_give_4 : decode cX0_give 4 = .ok (.aload_n 0, 1) := by decide +kernel
theorem dX0_give_5 : decode cX0_give 5 = .ok (.invokevirtual 67, 3) := by decide +kernel
theorem dX0_give_8 : decode cX0_give 8 = .ok (.ireturn, 1) := by decide +kernel
theorem dX0_step_0 : decode cX0_step 0 = .ok (.aload_n 0, 1) := by decide +kernel
theorem dX0_step_1 : decode cX0_step 1 = .ok (.invokevirtual 64, 3) := by decide +kernel
theorem dX0_step_4 : decode cX0_step 4 = .ok (.aload_n 0, 1) := by decide +kernel
theorem dX0_step_5 : decode cX0_step 5 = .ok (.invokevirtual 71, 3) := by decide +kernel
theorem dX0_step_8 : decode cX0_step 8 = .ok (.bipush 17, 2) := by decide +kernel
theorem dX0_step_10 : decode cX0_step 10 = .ok (.if_icmp .eq 5, 3) := by decide +kernel
theorem dX0_step_13 : decode cX0_step 13 = .ok (.iconst (-1), 1) := by decide +kernel
theorem dX0_step_14 : decode cX0_step 14 = .ok (.ireturn, 1) := by decide +kernel
theorem dX0_step_15 : decode cX0_step 15 = .ok (.aload_n 0, 1) := by decide +kernel
theorem dX0_step_16 : decode cX0_step 16 = .ok (.dup, 1) := by decide +kernel
theorem dX0_step_17 : decode cX0_step 17 = .ok (.getfield 74, 3) := by decide +kernel
theorem dX0_step_20 : decode cX0_step 20 = .ok (.iconst 1, 1) := by decide +kernel
theorem dX0_step_21 : decode cX0_step 21 = .ok (.iadd, 1) := by decide +kernel
theorem dX0_step_22 : decode cX0_step 22 = .ok (.putfield 74, 3) := by decide +kernel
theorem dX0_step_25 : decode cX0_step 25 = .ok (.aload_n 0, 1) := by decide +kernel
theorem dX0_step_26 : decode cX0_step 26 = .ok (.invokevirtual 67, 3) := by decide +kernel
theorem dX0_step_29 : decode cX0_step 29 = .ok (.ireturn, 1) := by decide +kernel
theorem dX0_along_0 : decode cX0_along 0 = .ok (.aload_n 0, 1) := by decide +kernel
theorem dX0_along_1 : decode cX0_along 1 = .ok (.invokevirtual 64, 3) := by decide +kernel
theorem dX0_along_4 : decode cX0_along 4 = .ok (.aload_n 0, 1) := by decide +kernel
theorem dX0_along_5 : decode cX0_along 5 = .ok (.invokevirtual 77, 3) := by decide +kernel
theorem dX0_along_8 : decode cX0_along 8 = .ok (.istore_n 1, 1) := by decide +kernel
theorem dX0_along_9 : decode cX0_along 9 = .ok (.iload_n 1, 1) := by decide +kernel
theorem dX0_along_10 : decode cX0_along 10 = .ok (.iconst (-1), 1) := by decide +kernel
theorem dX0_along_11 : decode cX0_along 11 = .ok (.if_icmp .eq 7, 3) := by decide +kernel
theorem dX0_along_14 : decode cX0_along 14 = .ok (.iconst (-1), 1) := by decide +kernel
theorem dX0_along_15 : decode cX0_along 15 = .ok (.iload_n 1, 1) := by decide +kernel
theorem dX0_along_16 : decode cX0_along 16 = .ok (.isub, 1) := by decide +kernel
theorem dX0_along_17 : decode cX0_along 17 = .ok (.ireturn, 1) := by decide +kernel
theorem dX0_along_18 : decode cX0_along 18 = .ok (.aload_n 0, 1) := by decide +kernel
theorem dX0_along_19 : decode cX0_along 19 = .ok (.dup, 1) := by decide +kernel
theorem dX0_along_20 : decode cX0_along 20 = .ok (.getfield 74, 3) := by decide +kernel
theorem dX0_along_23 : decode cX0_along 23 = .ok (.iconst 1, 1) := by decide +kernel
theorem dX0_along_24 : decode cX0_along 24 = .ok (.iadd, 1) := by decide +kernel
theorem dX0_along_25 : decode cX0_along 25 = .ok (.putfield 74, 3) := by decide +kernel
theorem dX0_along_28 : decode cX0_along 28 = .ok (.aload_n 0, 1) := by decide +kernel
theorem dX0_along_29 : decode cX0_along 29 = .ok (.iconst 0, 1) := by decide +kernel
theorem dX0_along_30 : decode cX0_along 30 = .ok (.putfield 53, 3) := by decide +kernel
theorem dX0_along_33 : decode cX0_along 33 = .ok (.aload_n 0, 1) := by decide +kernel
theorem dX0_along_34 : decode cX0_along 34 = .ok (.invokevirtual 67, 3) := by decide +kernel
theorem dX0_along_37 : decode cX0_along 37 = .ok (.ireturn, 1) := by decide +kernel
theorem dX0_drop_0 : decode cX0_drop 0 = .ok (.aload_n 0, 1) := by decide +kernel
theorem dX0_drop_1 : decode cX0_drop 1 = .ok (.iload_n 1, 1) := by decide +kernel
theorem dX0_drop_2 : decode cX0_drop 2 = .ok (.invokevirtual 80, 3) := by decide +kernel
theorem dX0_drop_5 : decode cX0_drop 5 = .ok (.aload_n 0, 1) := by decide +kernel
theorem dX0_drop_6 : decode cX0_drop 6 = .ok (.getfield 17, 3) := by decide +kernel
theorem dX0_drop_9 : decode cX0_drop 9 = .ok (.iload_n 1, 1) := by decide +kernel
theorem dX0_drop_10 : decode cX0_drop 10 = .ok (.iconst 0, 1) := by decide +kernel
theorem dX0_drop_11 : decode cX0_drop 11 = .ok (.bastore, 1) := by decide +kernel
theorem dX0_drop_12 : decode cX0_drop 12 = .ok (.aload_n 0, 1) := by decide +kernel
theorem dX0_drop_13 : decode cX0_drop 13 = .ok (.dup, 1) := by decide +kernel
theorem dX0_drop_14 : decode cX0_drop 14 = .ok (.getfield 84, 3) := by decide +kernel
theorem dX0_drop_17 : decode cX0_drop 17 = .ok (.iconst 1, 1) := by decide +kernel
theorem dX0_drop_18 : decode cX0_drop 18 = .ok (.isub, 1) := by decide +kernel
theorem dX0_drop_19 : decode cX0_drop 19 = .ok (.putfield 84, 3) := by decide +kernel
theorem dX0_drop_22 : decode cX0_drop 22 = .ok (.aload_n 0, 1) := by decide +kernel
theorem dX0_drop_23 : decode cX0_drop 23 = .ok (.getfield 9, 3) := by decide +kernel
theorem dX0_drop_26 : decode cX0_drop 26 = .ok (.iload_n 1, 1) := by decide +kernel
theorem dX0_drop_27 : decode cX0_drop 27 = .ok (.iaload, 1) := by decide +kernel
theorem dX0_drop_28 : decode cX0_drop 28 = .ok (.invokestatic 48, 3) := by decide +kernel
theorem dX0_drop_31 : decode cX0_drop 31 = .ok (.ireturn, 1) := by decide +kernel
theorem dX0_at_0 : decode cX0_at 0 = .ok (.aload_n 0, 1) := by decide +kernel
theorem dX0_at_1 : decode cX0_at 1 = .ok (.iload_n 1, 1) := by decide +kernel
theorem dX0_at_2 : decode cX0_at 2 = .ok (.invokevirtual 80, 3) := by decide +kernel
theorem dX0_at_5 : decode cX0_at 5 = .ok (.iload_n 2, 1) := by decide +kernel
theorem dX0_at_6 : decode cX0_at 6 = .ok (.ifCond .ge 13, 3) := by decide +kernel
theorem dX0_at_9 : decode cX0_at 9 = .ok (.new 24, 3) := by decide +kernel
theorem dX0_at_12 : decode cX0_at 12 = .ok (.dup, 1) := by decide +kernel
theorem dX0_at_13 : decode cX0_at 13 = .ok (.ldc 87, 2) := by decide +kernel
theorem dX0_at_15 : decode cX0_at 15 = .ok (.invokespecial 28, 3) := by decide +kernel
theorem dX0_at_18 : decode cX0_at 18 = .ok (.athrow, 1) := by decide +kernel
theorem dX0_at_19 : decode cX0_at 19 = .ok (.aload_n 0, 1) := by decide +kernel
theorem dX0_at_20 : decode cX0_at 20 = .ok (.getfield 9, 3) := by decide +kernel
theorem dX0_at_23 : decode cX0_at 23 = .ok (.iload_n 1, 1) := by decide +kernel
theorem dX0_at_24 : decode cX0_at 24 = .ok (.iaload, 1) := by decide +kernel
theorem dX0_at_25 : decode cX0_at 25 = .ok (.istore_n 3, 1) := by decide +kernel
theorem dX0_at_26 : decode cX0_at 26 = .ok (.iload_n 2, 1) := by decide +kernel
theorem dX0_at_27 : decode cX0_at 27 = .ok (.iload_n 3, 1) := by decide +kernel
theorem dX0_at_28 : decode cX0_at 28 = .ok (.invokestatic 48, 3) := by decide +kernel
theorem dX0_at_31 : decode cX0_at 31 = .ok (.if_icmp .lt 5, 3) := by decide +kernel
theorem dX0_at_34 : decode cX0_at 34 = .ok (.iconst 0, 1) := by decide +kernel
theorem dX0_at_35 : decode cX0_at 35 = .ok (.ireturn, 1) := by decide +kernel
theorem dX0_at_36 : decode cX0_at 36 = .ok (.aload_n 0, 1) := by decide +kernel
theorem dX0_at_37 : decode cX0_at 37 = .ok (.getfield 13, 3) := by decide +kernel
theorem dX0_at_40 : decode cX0_at 40 = .ok (.iload_n 1, 1) := by decide +kernel
theorem dX0_at_41 : decode cX0_at 41 = .ok (.laload, 1) := by decide +kernel
theorem dX0_at_42 : decode cX0_at 42 = .ok (.iconst 4, 1) := by decide +kernel
theorem dX0_at_43 : decode cX0_at 43 = .ok (.iload_n 2, 1) := by decide +kernel
theorem dX0_at_44 : decode cX0_at 44 = .ok (.imul, 1) := by decide +kernel
theorem dX0_at_45 : decode cX0_at 45 = .ok (.lushr, 1) := by decide +kernel
theorem dX0_at_46 : decode cX0_at 46 = .ok (.ldc2_w 89, 3) := by decide +kernel
theorem dX0_at_49 : decode cX0_at 49 = .ok (.land, 1) := by decide +kernel
theorem dX0_at_50 : decode cX0_at 50 = .ok (.l2i, 1) := by decide +kernel
theorem dX0_at_51 : decode cX0_at 51 = .ok (.iconst 1, 1) := by decide +kernel
theorem dX0_at_52 : decode cX0_at 52 = .ok (.iadd, 1) := by decide +kernel
theorem dX0_at_53 : decode cX0_at 53 = .ok (.istore 4, 2) := by decide +kernel
theorem dX0_at_55 : decode cX0_at 55 = .ok (.iload_n 3, 1) := by decide +kernel
theorem dX0_at_56 : decode cX0_at 56 = .ok (.iload 4, 2) := by decide +kernel
theorem dX0_at_58 : decode cX0_at 58 = .ok (.invokestatic 31, 3) := by decide +kernel
theorem dX0_at_61 : decode cX0_at 61 = .ok (.iand, 1) := by decide +kernel
theorem dX0_at_62 : decode cX0_at 62 = .ok (.ifCond .eq 8, 3) := by decide +kernel
theorem dX0_at_65 : decode cX0_at 65 = .ok (.iload 4, 2) := by decide +kernel
theorem dX0_at_67 : decode cX0_at 67 = .ok (.goto 6, 3) := by decide +kernel
theorem dX0_at_70 : decode cX0_at 70 = .ok (.iload 4, 2) := by decide +kernel
theorem dX0_at_72 : decode cX0_at 72 = .ok (.ineg, 1) := by decide +kernel
theorem dX0_at_73 : decode cX0_at 73 = .ok (.ireturn, 1) := by decide +kernel
theorem dX0_told_0 : decode cX0_told 0 = .ok (.aload_n 0, 1) := by decide +kernel
theorem dX0_told_1 : decode cX0_told 1 = .ok (.getfield 35, 3) := by decide +kernel
theorem dX0_told_4 : decode cX0_told 4 = .ok (.istore_n 1, 1) := by decide +kernel
theorem dX0_told_5 : decode cX0_told 5 = .ok (.iconst 0, 1) := by decide +kernel
theorem dX0_told_6 : decode cX0_told 6 = .ok (.istore_n 2, 1) := by decide +kernel
theorem dX0_told_7 : decode cX0_told 7 = .ok (.iload_n 2, 1) := by decide +kernel
theorem dX0_told_8 : decode cX0_told 8 = .ok (.bipush 16, 2) := by decide +kernel
theorem dX0_told_10 : decode cX0_told 10 = .ok (.if_icmp .gt 81, 3) := by decide +kernel
theorem dX0_told_13 : decode cX0_told 13 = .ok (.iload_n 1, 1) := by decide +kernel
theorem dX0_told_14 : decode cX0_told 14 = .ok (.istore_n 3, 1) := by decide +kernel
theorem dX0_told_15 : decode cX0_told 15 = .ok (.iconst 0, 1) := by decide +kernel
theorem dX0_told_16 : decode cX0_told 16 = .ok (.istore 4, 2) := by decide +kernel
theorem dX0_told_18 : decode cX0_told 18 = .ok (.iload 4, 2) := by decide +kernel
theorem dX0_told_20 : decode cX0_told 20 = .ok (.aload_n 0, 1) := by decide +kernel
theorem dX0_told_21 : decode cX0_told 21 = .ok (.getfield 91, 3) := by decide +kernel
theorem dX0_told_24 : decode cX0_told 24 = .ok (.if_icmp .ge 53, 3) := by decide +kernel
theorem dX0_told_27 : decode cX0_told 27 = .ok (.aload_n 0, 1) := by decide +kernel
theorem dX0_told_28 : decode cX0_told 28 = .ok (.getfield 17, 3) := by decide +kernel
theorem dX0_told_31 : decode cX0_told 31 = .ok (.iload 4, 2) := by decide +kernel
theorem dX0_told_33 : decode cX0_told 33 = .ok (.baload, 1) := by decide +kernel
theorem dX0_told_34 : decode cX0_told 34 = .ok (.ifCond .eq 37, 3) := by decide +kernel
theorem dX0_told_37 : decode cX0_told 37 = .ok (.aload_n 0, 1) := by decide +kernel
theorem dX0_told_38 : decode cX0_told 38 = .ok (.getfield 9, 3) := by decide +kernel
theorem dX0_told_41 : decode cX0_told 41 = .ok (.iload 4, 2) := by decide +kernel
theorem dX0_told_43 : decode cX0_told 43 = .ok (.iaload, 1) := by decide +kernel
theorem dX0_told_44 : decode cX0_told 44 = .ok (.iload_n 1, 1) := by decide +kernel
theorem dX0_told_45 : decode cX0_told 45 = .ok (.invokestatic 94, 3) := by decide +kernel
theorem dX0_told_48 : decode cX0_told 48 = .ok (.ifCond .eq 6, 3) := by decide +kernel
theorem dX0_told_51 : decode cX0_told 51 = .ok (.bipush 17, 2) := by decide +kernel
theorem dX0_told_53 : decode cX0_told 53 = .ok (.ireturn, 1) := by decide +kernel
theorem dX0_told_54 : decode cX0_told 54 = .ok (.iload_n 1, 1) := by decide +kernel
theorem dX0_told_55 : decode cX0_told 55 = .ok (.aload_n 0, 1) := by decide +kernel
theorem dX0_told_56 : decode cX0_told 56 = .ok (.getfield 9, 3) := by decide +kernel
theorem dX0_told_59 : decode cX0_told 59 = .ok (.iload 4, 2) := by decide +kernel
theorem dX0_told_61 : decode cX0_told 61 = .ok (.iaload, 1) := by decide +kernel
theorem dX0_told_62 : decode cX0_told 62 = .ok (.iload_n 1, 1) := by decide +kernel
theorem dX0_told_63 : decode cX0_told 63 = .ok (.invokestatic 98, 3) := by decide +kernel
theorem dX0_told_66 : decode cX0_told 66 = .ok (.invokestatic 39, 3) := by decide +kernel
theorem dX0_told_69 : decode cX0_told 69 = .ok (.ior, 1) := by decide +kernel
theorem dX0_told_70 : decode cX0_told 70 = .ok (.istore_n 1, 1) := by decide +kernel
theorem dX0_told_71 : decode cX0_told 71 = .ok (.iinc 4 1, 3) := by decide +kernel
theorem dX0_told_74 : decode cX0_told 74 = .ok (.goto (-56), 3) := by decide +kernel
theorem dX0_told_77 : decode cX0_told 77 = .ok (.iload_n 1, 1) := by decide +kernel
theorem dX0_told_78 : decode cX0_told 78 = .ok (.iload_n 3, 1) := by decide +kernel
theorem dX0_told_79 : decode cX0_told 79 = .ok (.if_icmp .ne 6, 3) := by decide +kernel
theorem dX0_told_82 : decode cX0_told 82 = .ok (.goto 9, 3) := by decide +kernel
theorem dX0_told_85 : decode cX0_told 85 = .ok (.iinc 2 1, 3) := by decide +kernel
theorem dX0_told_88 : decode cX0_told 88 = .ok (.goto (-81), 3) := by decide +kernel
theorem dX0_told_91 : decode cX0_told 91 = .ok (.iload_n 1, 1) := by decide +kernel
theorem dX0_told_92 : decode cX0_told 92 = .ok (.invokestatic 48, 3) := by decide +kernel
theorem dX0_told_95 : decode cX0_told 95 = .ok (.aload_n 0, 1) := by decide +kernel
theorem dX0_told_96 : decode cX0_told 96 = .ok (.getfield 35, 3) := by decide +kernel
theorem dX0_told_99 : decode cX0_told 99 = .ok (.invokestatic 48, 3) := by decide +kernel
theorem dX0_told_102 : decode cX0_told 102 = .ok (.isub, 1) := by decide +kernel
theorem dX0_told_103 : decode cX0_told 103 = .ok (.ireturn, 1) := by decide +kernel
theorem dX0_isOver_0 : decode cX0_isOver 0 = .ok (.iconst 0, 1) := by decide +kernel
theorem dX0_isOver_1 : decode cX0_isOver 1 = .ok (.istore_n 1, 1) := by decide +kernel
theorem dX0_isOver_2 : decode cX0_isOver 2 = .ok (.iload_n 1, 1) := by decide +kernel
theorem dX0_isOver_3 : decode cX0_isOver 3 = .ok (.aload_n 0, 1) := by decide +kernel
theorem dX0_isOver_4 : decode cX0_isOver 4 = .ok (.getfield 91, 3) := by decide +kernel
theorem dX0_isOver_7 : decode cX0_isOver 7 = .ok (.if_icmp .ge 29, 3) := by decide +kernel
theorem dX0_isOver_10 : decode cX0_isOver 10 = .ok (.aload_n 0, 1) := by decide +kernel
theorem dX0_isOver_11 : decode cX0_isOver 11 = .ok (.getfield 17, 3) := by decide +kernel
theorem dX0_isOver_14 : decode cX0_isOver 14 = .ok (.iload_n 1, 1) := by decide +kernel
theorem dX0_isOver_15 : decode cX0_isOver 15 = .ok (.baload, 1) := by decide +kernel
theorem dX0_isOver_16 : decode cX0_isOver 16 = .ok (.ifCond .eq 14, 3) := by decide +kernel
theorem dX0_isOver_19 : decode cX0_isOver 19 = .ok (.aload_n 0, 1) := by decide +kernel
theorem dX0_isOver_20 : decode cX0_isOver 20 = .ok (.getfield 9, 3) := by decide +kernel
theorem dX0_isOver_23 : decode cX0_isOver 23 = .ok (.iload_n 1, 1) := by decide +kernel
theorem dX0_isOver_24 : decode cX0_isOver 24 = .ok (.iaload, 1) := by decide +kernel
theorem dX0_isOver_25 : decode cX0_isOver 25 = .ok (.ifCond .ne 5, 3) := by decide +kernel
theorem dX0_isOver_28 : decode cX0_isOver 28 = .ok (.iconst 1, 1) := by decide +kernel
theorem dX0_isOver_29 : decode cX0_isOver 29 = .ok (.ireturn, 1) := by decide +kernel
theorem dX0_isOver_30 : decode cX0_isOver 30 = .ok (.iinc 1 1, 3) := by decide +kernel
theorem dX0_isOver_33 : decode cX0_isOver 33 = .ok (.goto (-31), 3) := by decide +kernel
theorem dX0_isOver_36 : decode cX0_isOver 36 = .ok (.iconst 0, 1) := by decide +kernel
theorem dX0_isOver_37 : decode cX0_isOver 37 = .ok (.ireturn, 1) := by decide +kernel
theorem dX0_wrong_0 : decode cX0_wrong 0 = .ok (.iconst 0, 1) := by decide +kernel
theorem dX0_wrong_1 : decode cX0_wrong 1 = .ok (.ireturn, 1) := by decide +kernel
theorem dX0_count_0 : decode cX0_count 0 = .ok (.iload_n 1, 1) := by decide +kernel
theorem dX0_count_1 : decode cX0_count 1 = .ok (.tableswitch 63 0 4 #[35, 40, 45, 50, 58], 35) := by decide +kernel
theorem dX0_count_36 : decode cX0_count 36 = .ok (.aload_n 0, 1) := by decide +kernel
theorem dX0_count_37 : decode cX0_count 37 = .ok (.getfield 91, 3) := by decide +kernel
theorem dX0_count_40 : decode cX0_count 40 = .ok (.ireturn, 1) := by decide +kernel
theorem dX0_count_41 : decode cX0_count 41 = .ok (.aload_n 0, 1) := by decide +kernel
theorem dX0_count_42 : decode cX0_count 42 = .ok (.getfield 84, 3) := by decide +kernel
theorem dX0_count_45 : decode cX0_count 45 = .ok (.ireturn, 1) := by decide +kernel
theorem dX0_count_46 : decode cX0_count 46 = .ok (.aload_n 0, 1) := by decide +kernel
theorem dX0_count_47 : decode cX0_count 47 = .ok (.getfield 74, 3) := by decide +kernel
theorem dX0_count_50 : decode cX0_count 50 = .ok (.ireturn, 1) := by decide +kernel
theorem dX0_count_51 : decode cX0_count 51 = .ok (.aload_n 0, 1) := by decide +kernel
theorem dX0_count_52 : decode cX0_count 52 = .ok (.getfield 35, 3) := by decide +kernel
theorem dX0_count_55 : decode cX0_count 55 = .ok (.invokestatic 48, 3) := by decide +kernel
theorem dX0_count_58 : decode cX0_count 58 = .ok (.ireturn, 1) := by decide +kernel
theorem dX0_count_59 : decode cX0_count 59 = .ok (.aload_n 0, 1) := by decide +kernel
theorem dX0_count_60 : decode cX0_count 60 = .ok (.getfield 53, 3) := by decide +kernel
theorem dX0_count_63 : decode cX0_count 63 = .ok (.ireturn, 1) := by decide +kernel
theorem dX0_count_64 : decode cX0_count 64 = .ok (.new 24, 3) := by decide +kernel
theorem dX0_count_67 : decode cX0_count 67 = .ok (.dup, 1) := by decide +kernel
theorem dX0_count_68 : decode cX0_count 68 = .ok (.ldc 102, 2) := by decide +kernel
theorem dX0_count_70 : decode cX0_count 70 = .ok (.invokespecial 28, 3) := by decide +kernel
theorem dX0_count_73 : decode cX0_count 73 = .ok (.athrow, 1) := by decide +kernel
theorem dX0_bitOf_0 : decode cX0_bitOf 0 = .ok (.iload_n 0, 1) := by decide +kernel
theorem dX0_bitOf_1 : decode cX0_bitOf 1 = .ok (.ifCond .le 11, 3) := by decide +kernel
theorem dX0_bitOf_4 : decode cX0_bitOf 4 = .ok (.iconst 1, 1) := by decide +kernel
theorem dX0_bitOf_5 : decode cX0_bitOf 5 = .ok (.iload_n 0, 1) := by decide +kernel
theorem dX0_bitOf_6 : decode cX0_bitOf 6 = .ok (.iconst 1, 1) := by decide +kernel
theorem dX0_bitOf_7 : decode cX0_bitOf 7 = .ok (.isub, 1) := by decide +kernel
theorem dX0_bitOf_8 : decode cX0_bitOf 8 = .ok (.ishl, 1) := by decide +kernel
theorem dX0_bitOf_9 : decode cX0_bitOf 9 = .ok (.goto 9, 3) := by decide +kernel
theorem dX0_bitOf_12 : decode cX0_bitOf 12 = .ok (.iconst 1, 1) := by decide +kernel
theorem dX0_bitOf_13 : decode cX0_bitOf 13 = .ok (.bipush 15, 2) := by decide +kernel
theorem dX0_bitOf_15 : decode cX0_bitOf 15 = .ok (.iload_n 0, 1) := by decide +kernel
theorem dX0_bitOf_16 : decode cX0_bitOf 16 = .ok (.isub, 1) := by decide +kernel
theorem dX0_bitOf_17 : decode cX0_bitOf 17 = .ok (.ishl, 1) := by decide +kernel
theorem dX0_bitOf_18 : decode cX0_bitOf 18 = .ok (.ireturn, 1) := by decide +kernel
theorem dX0_negated_0 : decode cX0_negated 0 = .ok (.iload_n 0, 1) := by decide +kernel
theorem dX0_negated_1 : decode cX0_negated 1 = .ok (.bipush 16, 2) := by decide +kernel
theorem dX0_negated_3 : decode cX0_negated 3 = .ok (.ishl, 1) := by decide +kernel
theorem dX0_negated_4 : decode cX0_negated 4 = .ok (.iload_n 0, 1) := by decide +kernel
theorem dX0_negated_5 : decode cX0_negated 5 = .ok (.bipush 16, 2) := by decide +kernel
theorem dX0_negated_7 : decode cX0_negated 7 = .ok (.iushr, 1) := by decide +kernel
theorem dX0_negated_8 : decode cX0_negated 8 = .ok (.ior, 1) := by decide +kernel
theorem dX0_negated_9 : decode cX0_negated 9 = .ok (.ireturn, 1) := by decide +kernel
theorem dX0_sizeOf_0 : decode cX0_sizeOf 0 = .ok (.iload_n 0, 1) := by decide +kernel
theorem dX0_sizeOf_1 : decode cX0_sizeOf 1 = .ok (.invokestatic 104, 3) := by decide +kernel
theorem dX0_sizeOf_4 : decode cX0_sizeOf 4 = .ok (.ireturn, 1) := by decide +kernel
theorem dX0_isWrong_0 : decode cX0_isWrong 0 = .ok (.iload_n 0, 1) := by decide +kernel
theorem dX0_isWrong_1 : decode cX0_isWrong 1 = .ok (.iload_n 1, 1) := by decide +kernel
theorem dX0_isWrong_2 : decode cX0_isWrong 2 = .ok (.iconst (-1), 1) := by decide +kernel
theorem dX0_isWrong_3 : decode cX0_isWrong 3 = .ok (.ixor, 1) := by decide +kernel
theorem dX0_isWrong_4 : decode cX0_isWrong 4 = .ok (.iand, 1) := by decide +kernel
theorem dX0_isWrong_5 : decode cX0_isWrong 5 = .ok (.ifCond .ne 7, 3) := by decide +kernel
theorem dX0_isWrong_8 : decode cX0_isWrong 8 = .ok (.iconst 1, 1) := by decide +kernel
theorem dX0_isWrong_9 : decode cX0_isWrong 9 = .ok (.goto 4, 3) := by decide +kernel
theorem dX0_isWrong_12 : decode cX0_isWrong 12 = .ok (.iconst 0, 1) := by decide +kernel
theorem dX0_isWrong_13 : decode cX0_isWrong 13 = .ok (.ireturn, 1) := by decide +kernel
theorem dX0_toldBy_0 : decode cX0_toldBy 0 = .ok (.iload_n 0, 1) := by decide +kernel
theorem dX0_toldBy_1 : decode cX0_toldBy 1 = .ok (.iload_n 1, 1) := by decide +kernel
theorem dX0_toldBy_2 : decode cX0_toldBy 2 = .ok (.iconst (-1), 1) := by decide +kernel
theorem dX0_toldBy_3 : decode cX0_toldBy 3 = .ok (.ixor, 1) := by decide +kernel
theorem dX0_toldBy_4 : decode cX0_toldBy 4 = .ok (.iand, 1) := by decide +kernel
theorem dX0_toldBy_5 : decode cX0_toldBy 5 = .ok (.istore_n 2, 1) := by decide +kernel
theorem dX0_toldBy_6 : decode cX0_toldBy 6 = .ok (.iload_n 2, 1) := by decide +kernel
theorem dX0_toldBy_7 : decode cX0_toldBy 7 = .ok (.iload_n 1, 1) := by decide +kernel
theorem dX0_toldBy_8 : decode cX0_toldBy 8 = .ok (.invokestatic 39, 3) := by decide +kernel
theorem dX0_toldBy_11 : decode cX0_toldBy 11 = .ok (.iand, 1) := by decide +kernel
theorem dX0_toldBy_12 : decode cX0_toldBy 12 = .ok (.ifCond .eq 7, 3) := by decide +kernel
theorem dX0_toldBy_15 : decode cX0_toldBy 15 = .ok (.iconst 1, 1) := by decide +kernel
theorem dX0_toldBy_16 : decode cX0_toldBy 16 = .ok (.goto 4, 3) := by decide +kernel
theorem dX0_toldBy_19 : decode cX0_toldBy 19 = .ok (.iconst 0, 1) := by decide +kernel
theorem dX0_toldBy_20 : decode cX0_toldBy 20 = .ok (.istore_n 3, 1) := by decide +kernel
theorem dX0_toldBy_21 : decode cX0_toldBy 21 = .ok (.iload_n 2, 1) := by decide +kernel
theorem dX0_toldBy_22 : decode cX0_toldBy 22 = .ok (.invokestatic 48, 3) := by decide +kernel
theorem dX0_toldBy_25 : decode cX0_toldBy 25 = .ok (.iconst 1, 1) := by decide +kernel
theorem dX0_toldBy_26 : decode cX0_toldBy 26 = .ok (.if_icmp .ne 11, 3) := by decide +kernel
theorem dX0_toldBy_29 : decode cX0_toldBy 29 = .ok (.iload_n 3, 1) := by decide +kernel
theorem dX0_toldBy_30 : decode cX0_toldBy 30 = .ok (.ifCond .ne 7, 3) := by decide +kernel
theorem dX0_toldBy_33 : decode cX0_toldBy 33 = .ok (.iload_n 2, 1) := by decide +kernel
theorem dX0_toldBy_34 : decode cX0_toldBy 34 = .ok (.goto 4, 3) := by decide +kernel
theorem dX0_toldBy_37 : decode cX0_toldBy 37 = .ok (.iconst 0, 1) := by decide +kernel
theorem dX0_toldBy_38 : decode cX0_toldBy 38 = .ok (.ireturn, 1) := by decide +kernel
theorem dX0_firstBadHint_0 : decode cX0_firstBadHint 0 = .ok (.aload_n 0, 1) := by decide +kernel
theorem dX0_firstBadHint_1 : decode cX0_firstBadHint 1 = .ok (.getfield 35, 3) := by decide +kernel
theorem dX0_firstBadHint_4 : decode cX0_firstBadHint 4 = .ok (.istore_n 1, 1) := by decide +kernel
theorem dX0_firstBadHint_5 : decode cX0_firstBadHint 5 = .ok (.iconst 0, 1) := by decide +kernel
theorem dX0_firstBadHint_6 : decode cX0_firstBadHint 6 = .ok (.istore_n 2, 1) := by decide +kernel
theorem dX0_firstBadHint_7 : decode cX0_firstBadHint 7 = .ok (.iload_n 2, 1) := by decide +kernel
theorem dX0_firstBadHint_8 : decode cX0_firstBadHint 8 = .ok (.aload_n 0, 1) := by decide +kernel
theorem dX0_firstBadHint_9 : decode cX0_firstBadHint 9 = .ok (.getfield 53, 3) := by decide +kernel
theorem dX0_firstBadHint_12 : decode cX0_firstBadHint 12 = .ok (.if_icmp .ge 78, 3) := by decide +kernel
theorem dX0_firstBadHint_15 : decode cX0_firstBadHint 15 = .ok (.aload_n 0, 1) := by decide +kernel
theorem dX0_firstBadHint_16 : decode cX0_firstBadHint 16 = .ok (.getfield 21, 3) := by decide +kernel
theorem dX0_firstBadHint_19 : decode cX0_firstBadHint 19 = .ok (.iload_n 2, 1) := by decide +kernel
theorem dX0_firstBadHint_20 : decode cX0_firstBadHint 20 = .ok (.iaload, 1) := by decide +kernel
theorem dX0_firstBadHint_21 : decode cX0_firstBadHint 21 = .ok (.istore_n 3, 1) := by decide +kernel
theorem dX0_firstBadHint_22 : decode cX0_firstBadHint 22 = .ok (.aload_n 0, 1) := by decide +kernel
theorem dX0_firstBadHint_23 : decode cX0_firstBadHint 23 = .ok (.iload_n 3, 1) := by decide +kernel
theorem dX0_firstBadHint_24 : decode cX0_firstBadHint 24 = .ok (.invokevirtual 109, 3) := by decide +kernel
theorem dX0_firstBadHint_27 : decode cX0_firstBadHint 27 = .ok (.ifCond .ne 5, 3) := by decide +kernel
theorem dX0_firstBadHint_30 : decode cX0_firstBadHint 30 = .ok (.iload_n 2, 1) := by decide +kernel
theorem dX0_firstBadHint_31 : decode cX0_firstBadHint 31 = .ok (.ireturn, 1) := by decide +kernel
theorem dX0_firstBadHint_32 : decode cX0_firstBadHint 32 = .ok (.iload_n 2, 1) := by decide +kernel
theorem dX0_firstBadHint_33 : decode cX0_firstBadHint 33 = .ok (.aload_n 0, 1) := by decide +kernel
theorem dX0_firstBadHint_34 : decode cX0_firstBadHint 34 = .ok (.getfield 53, 3) := by decide +kernel
theorem dX0_firstBadHint_37 : decode cX0_firstBadHint 37 = .ok (.iconst 1, 1) := by decide +kernel
theorem dX0_firstBadHint_38 : decode cX0_firstBadHint 38 = .ok (.isub, 1) := by decide +kernel
theorem dX0_firstBadHint_39 : decode cX0_firstBadHint 39 = .ok (.if_icmp .ne 18, 3) := by decide +kernel
theorem dX0_firstBadHint_42 : decode cX0_firstBadHint 42 = .ok (.aload_n 0, 1) := by decide +kernel
theorem dX0_firstBadHint_43 : decode cX0_firstBadHint 43 = .ok (.getfield 9, 3) := by decide +kernel
theorem dX0_firstBadHint_46 : decode cX0_firstBadHint 46 = .ok (.iload_n 3, 1) := by decide +kernel
theorem dX0_firstBadHint_47 : decode cX0_firstBadHint 47 = .ok (.iaload, 1) := by decide +kernel
theorem dX0_firstBadHint_48 : decode cX0_firstBadHint 48 = .ok (.iload_n 1, 1) := by decide +kernel
theorem dX0_firstBadHint_49 : decode cX0_firstBadHint 49 = .ok (.invokestatic 94, 3) := by decide +kernel
theorem dX0_firstBadHint_52 : decode cX0_firstBadHint 52 = .ok (.ifCond .eq 5, 3) := by decide +kernel
theorem dX0_firstBadHint_55 : decode cX0_firstBadHint 55 = .ok (.iconst (-1), 1) := by decide +kernel
theorem dX0_firstBadHint_56 : decode cX0_firstBadHint 56 = .ok (.ireturn, 1) := by decide +kernel
theorem dX0_firstBadHint_57 : decode cX0_firstBadHint 57 = .ok (.aload_n 0, 1) := by decide +kernel
theorem dX0_firstBadHint_58 : decode cX0_firstBadHint 58 = .ok (.getfield 9, 3) := by decide +kernel
theorem dX0_firstBadHint_61 : decode cX0_firstBadHint 61 = .ok (.iload_n 3, 1) := by decide +kernel
theorem dX0_firstBadHint_62 : decode cX0_firstBadHint 62 = .ok (.iaload, 1) := by decide +kernel
theorem dX0_firstBadHint_63 : decode cX0_firstBadHint 63 = .ok (.iload_n 1, 1) := by decide +kernel
theorem dX0_firstBadHint_64 : decode cX0_firstBadHint 64 = .ok (.invokestatic 98, 3) := by decide +kernel
theorem dX0_firstBadHint_67 : decode cX0_firstBadHint 67 = .ok (.istore 4, 2) := by decide +kernel
theorem dX0_firstBadHint_69 : decode cX0_firstBadHint 69 = .ok (.iload 4, 2) := by decide +kernel
theorem dX0_firstBadHint_71 : decode cX0_firstBadHint 71 = .ok (.ifCond .ne 5, 3) := by decide +kernel
theorem dX0_firstBadHint_74 : decode cX0_firstBadHint 74 = .ok (.iload_n 2, 1) := by decide +kernel
theorem dX0_firstBadHint_75 : decode cX0_firstBadHint 75 = .ok (.ireturn, 1) := by decide +kernel
theorem dX0_firstBadHint_76 : decode cX0_firstBadHint 76 = .ok (.iload_n 1, 1) := by decide +kernel
theorem dX0_firstBadHint_77 : decode cX0_firstBadHint 77 = .ok (.iload 4, 2) := by decide +kernel
theorem dX0_firstBadHint_79 : decode cX0_firstBadHint 79 = .ok (.invokestatic 39, 3) := by decide +kernel
theorem dX0_firstBadHint_82 : decode cX0_firstBadHint 82 = .ok (.ior, 1) := by decide +kernel
theorem dX0_firstBadHint_83 : decode cX0_firstBadHint 83 = .ok (.istore_n 1, 1) := by decide +kernel
theorem dX0_firstBadHint_84 : decode cX0_firstBadHint 84 = .ok (.iinc 2 1, 3) := by decide +kernel
theorem dX0_firstBadHint_87 : decode cX0_firstBadHint 87 = .ok (.goto (-80), 3) := by decide +kernel
theorem dX0_firstBadHint_90 : decode cX0_firstBadHint 90 = .ok (.aload_n 0, 1) := by decide +kernel
theorem dX0_firstBadHint_91 : decode cX0_firstBadHint 91 = .ok (.getfield 53, 3) := by decide +kernel
theorem dX0_firstBadHint_94 : decode cX0_firstBadHint 94 = .ok (.ireturn, 1) := by decide +kernel
theorem dX0_isThere_0 : decode cX0_isThere 0 = .ok (.iload_n 1, 1) := by decide +kernel
theorem dX0_isThere_1 : decode cX0_isThere 1 = .ok (.ifCond .lt 24, 3) := by decide +kernel
theorem dX0_isThere_4 : decode cX0_isThere 4 = .ok (.iload_n 1, 1) := by decide +kernel
theorem dX0_isThere_5 : decode cX0_isThere 5 = .ok (.aload_n 0, 1) := by decide +kernel
theorem dX0_isThere_6 : decode cX0_isThere 6 = .ok (.getfield 91, 3) := by decide +kernel
theorem dX0_isThere_9 : decode cX0_isThere 9 = .ok (.if_icmp .ge 16, 3) := by decide +kernel
theorem dX0_isThere_12 : decode cX0_isThere 12 = .ok (.aload_n 0, 1) := by decide +kernel
theorem dX0_isThere_13 : decode cX0_isThere 13 = .ok (.getfield 17, 3) := by decide +kernel
theorem dX0_isThere_16 : decode cX0_isThere 16 = .ok (.iload_n 1, 1) := by decide +kernel
theorem dX0_isThere_17 : decode cX0_isThere 17 = .ok (.baload, 1) := by decide +kernel
theorem dX0_isThere_18 : decode cX0_isThere 18 = .ok (.ifCond .eq 7, 3) := by decide +kernel
theorem dX0_isThere_21 : decode cX0_isThere 21 = .ok (.iconst 1, 1) := by decide +kernel
theorem dX0_isThere_22 : decode cX0_isThere 22 = .ok (.goto 4, 3) := by decide +kernel
theorem dX0_isThere_25 : decode cX0_isThere 25 = .ok (.iconst 0, 1) := by decide +kernel
theorem dX0_isThere_26 : decode cX0_isThere 26 = .ok (.ireturn, 1) := by decide +kernel
theorem dX0_refuseIfNotThere_0 : decode cX0_refuseIfNotThere 0 = .ok (.aload_n 0, 1) := by decide +kernel
theorem dX0_refuseIfNotThere_1 : decode cX0_refuseIfNotThere 1 = .ok (.iload_n 1, 1) := by decide +kernel
theorem dX0_refuseIfNotThere_2 : decode cX0_refuseIfNotThere 2 = .ok (.invokevirtual 109, 3) := by decide +kernel
theorem dX0_refuseIfNotThere_5 : decode cX0_refuseIfNotThere 5 = .ok (.ifCond .ne 13, 3) := by decide +kernel
theorem dX0_refuseIfNotThere_8 : decode cX0_refuseIfNotThere 8 = .ok (.new 24, 3) := by decide +kernel
theorem dX0_refuseIfNotThere_11 : decode cX0_refuseIfNotThere 11 = .ok (.dup, 1) := by decide +kernel
theorem dX0_refuseIfNotThere_12 : decode cX0_refuseIfNotThere 12 = .ok (.ldc 113, 2) := by decide +kernel
theorem dX0_refuseIfNotThere_14 : decode cX0_refuseIfNotThere 14 = .ok (.invokespecial 28, 3) := by decide +kernel
theorem dX0_refuseIfNotThere_17 : decode cX0_refuseIfNotThere 17 = .ok (.athrow, 1) := by decide +kernel
theorem dX0_refuseIfNotThere_18 : decode cX0_refuseIfNotThere 18 = .ok (.return_, 1) := by decide +kernel
theorem dX0_refuseIfFull_0 : decode cX0_refuseIfFull 0 = .ok (.aload_n 0, 1) := by decide +kernel
theorem dX0_refuseIfFull_1 : decode cX0_refuseIfFull 1 = .ok (.getfield 91, 3) := by decide +kernel
theorem dX0_refuseIfFull_4 : decode cX0_refuseIfFull 4 = .ok (.sipush 600, 3) := by decide +kernel
theorem dX0_refuseIfFull_7 : decode cX0_refuseIfFull 7 = .ok (.if_icmp .lt 13, 3) := by decide +kernel
theorem dX0_refuseIfFull_10 : decode cX0_refuseIfFull 10 = .ok (.new 56, 3) := by decide +kernel
theorem dX0_refuseIfFull_13 : decode cX0_refuseIfFull 13 = .ok (.dup, 1) := by decide +kernel
theorem dX0_refuseIfFull_14 : decode cX0_refuseIfFull 14 = .ok (.ldc 115, 2) := by decide +kernel
theorem dX0_refuseIfFull_16 : decode cX0_refuseIfFull 16 = .ok (.invokespecial 60, 3) := by decide +kernel
theorem dX0_refuseIfFull_19 : decode cX0_refuseIfFull 19 = .ok (.athrow, 1) := by decide +kernel
theorem dX0_refuseIfFull_20 : decode cX0_refuseIfFull 20 = .ok (.return_, 1) := by decide +kernel
theorem dX0_keepDraft_0 : decode cX0_keepDraft 0 = .ok (.aload_n 0, 1) := by decide +kernel
theorem dX0_keepDraft_1 : decode cX0_keepDraft 1 = .ok (.getfield 91, 3) := by decide +kernel
theorem dX0_keepDraft_4 : decode cX0_keepDraft 4 = .ok (.istore_n 1, 1) := by decide +kernel
theorem dX0_keepDraft_5 : decode cX0_keepDraft 5 = .ok (.aload_n 0, 1) := by decide +kernel
theorem dX0_keepDraft_6 : decode cX0_keepDraft 6 = .ok (.getfield 9, 3) := by decide +kernel
theorem dX0_keepDraft_9 : decode cX0_keepDraft 9 = .ok (.iload_n 1, 1) := by decide +kernel
theorem dX0_keepDraft_10 : decode cX0_keepDraft 10 = .ok (.aload_n 0, 1) := by decide +kernel
theorem dX0_keepDraft_11 : decode cX0_keepDraft 11 = .ok (.getfield 35, 3) := by decide +kernel
theorem dX0_keepDraft_14 : decode cX0_keepDraft 14 = .ok (.iastore, 1) := by decide +kernel
theorem dX0_keepDraft_15 : decode cX0_keepDraft 15 = .ok (.aload_n 0, 1) := by decide +kernel
theorem dX0_keepDraft_16 : decode cX0_keepDraft 16 = .ok (.getfield 13, 3) := by decide +kernel
theorem dX0_keepDraft_19 : decode cX0_keepDraft 19 = .ok (.iload_n 1, 1) := by decide +kernel
theorem dX0_keepDraft_20 : decode cX0_keepDraft 20 = .ok (.aload_n 0, 1) := by decide +kernel
theorem dX0_keepDraft_21 : decode cX0_keepDraft 21 = .ok (.getfield 44, 3) := by decide +kernel
theorem dX0_keepDraft_24 : decode cX0_keepDraft 24 = .ok (.lastore, 1) := by decide +kernel
theorem dX0_keepDraft_25 : decode cX0_keepDraft 25 = .ok (.aload_n 0, 1) := by decide +kernel
theorem dX0_keepDraft_26 : decode cX0_keepDraft 26 = .ok (.getfield 17, 3) := by decide +kernel
theorem dX0_keepDraft_29 : decode cX0_keepDraft 29 = .ok (.iload_n 1, 1) := by decide +kernel
theorem dX0_keepDraft_30 : decode cX0_keepDraft 30 = .ok (.iconst 1, 1) := by decide +kernel
theorem dX0_keepDraft_31 : decode cX0_keepDraft 31 = .ok (.bastore, 1) := by decide +kernel
theorem dX0_keepDraft_32 : decode cX0_keepDraft 32 = .ok (.aload_n 0, 1) := by decide +kernel
theorem dX0_keepDraft_33 : decode cX0_keepDraft 33 = .ok (.dup, 1) := by decide +kernel
theorem dX0_keepDraft_34 : decode cX0_keepDraft 34 = .ok (.getfield 91, 3) := by decide +kernel
theorem dX0_keepDraft_37 : decode cX0_keepDraft 37 = .ok (.iconst 1, 1) := by decide +kernel
theorem dX0_keepDraft_38 : decode cX0_keepDraft 38 = .ok (.iadd, 1) := by decide +kernel
theorem dX0_keepDraft_39 : decode cX0_keepDraft 39 = .ok (.putfield 91, 3) := by decide +kernel
theorem dX0_keepDraft_42 : decode cX0_keepDraft 42 = .ok (.aload_n 0, 1) := by decide +kernel
theorem dX0_keepDraft_43 : decode cX0_keepDraft 43 = .ok (.dup, 1) := by decide +kernel
theorem dX0_keepDraft_44 : decode cX0_keepDraft 44 = .ok (.getfield 84, 3) := by decide +kernel
theorem dX0_keepDraft_47 : decode cX0_keepDraft 47 = .ok (.iconst 1, 1) := by decide +kernel
theorem dX0_keepDraft_48 : decode cX0_keepDraft 48 = .ok (.iadd, 1) := by decide +kernel
theorem dX0_keepDraft_49 : decode cX0_keepDraft 49 = .ok (.putfield 84, 3) := by decide +kernel
theorem dX0_keepDraft_52 : decode cX0_keepDraft 52 = .ok (.aload_n 0, 1) := by decide +kernel
theorem dX0_keepDraft_53 : decode cX0_keepDraft 53 = .ok (.invokevirtual 61, 3) := by decide +kernel
theorem dX0_keepDraft_56 : decode cX0_keepDraft 56 = .ok (.iload_n 1, 1) := by decide +kernel
theorem dX0_keepDraft_57 : decode cX0_keepDraft 57 = .ok (.ireturn, 1) := by decide +kernel
theorem dX0_emptyDraft_0 : decode cX0_emptyDraft 0 = .ok (.aload_n 0, 1) := by decide +kernel
theorem dX0_emptyDraft_1 : decode cX0_emptyDraft 1 = .ok (.iconst 0, 1) := by decide +kernel
theorem dX0_emptyDraft_2 : decode cX0_emptyDraft 2 = .ok (.putfield 35, 3) := by decide +kernel
theorem dX0_emptyDraft_5 : decode cX0_emptyDraft 5 = .ok (.aload_n 0, 1) := by decide +kernel
theorem dX0_emptyDraft_6 : decode cX0_emptyDraft 6 = .ok (.lconst 0, 1) := by decide +kernel
theorem dX0_emptyDraft_7 : decode cX0_emptyDraft 7 = .ok (.putfield 44, 3) := by decide +kernel
theorem dX0_emptyDraft_10 : decode cX0_emptyDraft 10 = .ok (.return_, 1) := by decide +kernel
theorem dJ6_bitCount_0 : decode cJ6_bitCount 0 = .ok (.iload_n 0, 1) := by decide +kernel
theorem dJ6_bitCount_1 : decode cJ6_bitCount 1 = .ok (.iload_n 0, 1) := by decide +kernel
theorem dJ6_bitCount_2 : decode cJ6_bitCount 2 = .ok (.iconst 1, 1) := by decide +kernel
theorem dJ6_bitCount_3 : decode cJ6_bitCount 3 = .ok (.iushr, 1) := by decide +kernel
theorem dJ6_bitCount_4 : decode cJ6_bitCount 4 = .ok (.ldc_w 265, 3) := by decide +kernel
theorem dJ6_bitCount_7 : decode cJ6_bitCount 7 = .ok (.iand, 1) := by decide +kernel
theorem dJ6_bitCount_8 : decode cJ6_bitCount 8 = .ok (.isub, 1) := by decide +kernel
theorem dJ6_bitCount_9 : decode cJ6_bitCount 9 = .ok (.istore_n 0, 1) := by decide +kernel
theorem dJ6_bitCount_10 : decode cJ6_bitCount 10 = .ok (.iload_n 0, 1) := by decide +kernel
theorem dJ6_bitCount_11 : decode cJ6_bitCount 11 = .ok (.ldc_w 266, 3) := by decide +kernel
theorem dJ6_bitCount_14 : decode cJ6_bitCount 14 = .ok (.iand, 1) := by decide +kernel
theorem dJ6_bitCount_15 : decode cJ6_bitCount 15 = .ok (.iload_n 0, 1) := by decide +kernel
theorem dJ6_bitCount_16 : decode cJ6_bitCount 16 = .ok (.iconst 2, 1) := by decide +kernel
theorem dJ6_bitCount_17 : decode cJ6_bitCount 17 = .ok (.iushr, 1) := by decide +kernel
theorem dJ6_bitCount_18 : decode cJ6_bitCount 18 = .ok (.ldc_w 266, 3) := by decide +kernel
theorem dJ6_bitCount_21 : decode cJ6_bitCount 21 = .ok (.iand, 1) := by decide +kernel
theorem dJ6_bitCount_22 : decode cJ6_bitCount 22 = .ok (.iadd, 1) := by decide +kernel
theorem dJ6_bitCount_23 : decode cJ6_bitCount 23 = .ok (.istore_n 0, 1) := by decide +kernel
theorem dJ6_bitCount_24 : decode cJ6_bitCount 24 = .ok (.iload_n 0, 1) := by decide +kernel
theorem dJ6_bitCount_25 : decode cJ6_bitCount 25 = .ok (.iload_n 0, 1) := by decide +kernel
theorem dJ6_bitCount_26 : decode cJ6_bitCount 26 = .ok (.iconst 4, 1) := by decide +kernel
theorem dJ6_bitCount_27 : decode cJ6_bitCount 27 = .ok (.iushr, 1) := by decide +kernel
theorem dJ6_bitCount_28 : decode cJ6_bitCount 28 = .ok (.iadd, 1) := by decide +kernel
theorem dJ6_bitCount_29 : decode cJ6_bitCount 29 = .ok (.ldc_w 267, 3) := by decide +kernel
theorem dJ6_bitCount_32 : decode cJ6_bitCount 32 = .ok (.iand, 1) := by decide +kernel
theorem dJ6_bitCount_33 : decode cJ6_bitCount 33 = .ok (.istore_n 0, 1) := by decide +kernel
theorem dJ6_bitCount_34 : decode cJ6_bitCount 34 = .ok (.iload_n 0, 1) := by decide +kernel
theorem dJ6_bitCount_35 : decode cJ6_bitCount 35 = .ok (.iload_n 0, 1) := by decide +kernel
theorem dJ6_bitCount_36 : decode cJ6_bitCount 36 = .ok (.bipush 8, 2) := by decide +kernel
theorem dJ6_bitCount_38 : decode cJ6_bitCount 38 = .ok (.iushr, 1) := by decide +kernel
theorem dJ6_bitCount_39 : decode cJ6_bitCount 39 = .ok (.iadd, 1) := by decide +kernel
theorem dJ6_bitCount_40 : decode cJ6_bitCount 40 = .ok (.istore_n 0, 1) := by decide +kernel
theorem dJ6_bitCount_41 : decode cJ6_bitCount 41 = .ok (.iload_n 0, 1) := by decide +kernel
theorem dJ6_bitCount_42 : decode cJ6_bitCount 42 = .ok (.iload_n 0, 1) := by decide +kernel
theorem dJ6_bitCount_43 : decode cJ6_bitCount 43 = .ok (.bipush 16, 2) := by decide +kernel
theorem dJ6_bitCount_45 : decode cJ6_bitCount 45 = .ok (.iushr, 1) := by decide +kernel
theorem dJ6_bitCount_46 : decode cJ6_bitCount 46 = .ok (.iadd, 1) := by decide +kernel
theorem dJ6_bitCount_47 : decode cJ6_bitCount 47 = .ok (.istore_n 0, 1) := by decide +kernel
theorem dJ6_bitCount_48 : decode cJ6_bitCount 48 = .ok (.iload_n 0, 1) := by decide +kernel
theorem dJ6_bitCount_49 : decode cJ6_bitCount 49 = .ok (.bipush 63, 2) := by decide +kernel
theorem dJ6_bitCount_51 : decode cJ6_bitCount 51 = .ok (.iand, 1) := by decide +kernel
theorem dJ6_bitCount_52 : decode cJ6_bitCount 52 = .ok (.ireturn, 1) := by decide +kernel
