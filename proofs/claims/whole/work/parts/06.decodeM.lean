theorem dX1_init_0 : decode cX1_init 0 = .ok (.aload_n 0, 1) := by decide +kernel
theorem dX1_init_1 : decode cX1_init 1 = .ok (.invokespecial 1, 3) := by decide +kernel
theorem dX1_init_4 : decode cX1_init 4 = .ok (.aload_n 0, 1) := by decide +kernel
theorem dX1_init_5 : decode cX1_init 5 = .ok (.sipush 9600, 3) := by decide +kernel
theorem dX1_init_8 : decode cX1_init 8 = .ok (.newarray .int, 2) := by decide +kernel
theorem dX1_init_10 : decode cX1_init 10 = .ok (.putfield 7, 3) := by decide +kernel
theorem dX1_init_13 : decode cX1_init 13 = .ok (.aload_n 0, 1) := by decide +kernel
theorem dX1_init_14 : decode cX1_init 14 = .ok (.sipush 600, 3) := by decide +kernel
theorem dX1_init_17 : decode cX1_init 17 = .ok (.newarray .int, 2) := by decide +kernel
theorem dX1_init_19 : decode cX1_init 19 = .ok (.putfield 13, 3) := by decide +kernel
theorem dX1_init_22 : decode cX1_init 22 = .ok (.aload_n 0, 1) := by decide +kernel
theorem dX1_init_23 : decode cX1_init 23 = .ok (.bipush 16, 2) := by decide +kernel
theorem dX1_init_25 : decode cX1_init 25 = .ok (.newarray .int, 2) := by decide +kernel
theorem dX1_init_27 : decode cX1_init 27 = .ok (.putfield 16, 3) := by decide +kernel
theorem dX1_init_30 : decode cX1_init 30 = .ok (.aload_n 0, 1) := by decide +kernel
theorem dX1_init_31 : decode cX1_init 31 = .ok (.bipush 40, 2) := by decide +kernel
theorem dX1_init_33 : decode cX1_init 33 = .ok (.newarray .int, 2) := by decide +kernel
theorem dX1_init_35 : decode cX1_init 35 = .ok (.putfield 19, 3) := by decide +kernel
theorem dX1_init_38 : decode cX1_init 38 = .ok (.aload_n 0, 1) := by decide +kernel
theorem dX1_init_39 : decode cX1_init 39 = .ok (.bipush 17, 2) := by decide +kernel
theorem dX1_init_41 : decode cX1_init 41 = .ok (.newarray .int, 2) := by decide +kernel
theorem dX1_init_43 : decode cX1_init 43 = .ok (.putfield 22, 3) := by decide +kernel
theorem dX1_init_46 : decode cX1_init 46 = .ok (.aload_n 0, 1) := by decide +kernel
theorem dX1_init_47 : decode cX1_init 47 = .ok (.sipush 1024, 3) := by decide +kernel
theorem dX1_init_50 : decode cX1_init 50 = .ok (.newarray .long, 2) := by decide +kernel
theorem dX1_init_52 : decode cX1_init 52 = .ok (.putfield 25, 3) := by decide +kernel
theorem dX1_init_55 : decode cX1_init 55 = .ok (.aload_n 0, 1) := by decide +kernel
theorem dX1_init_56 : decode cX1_init 56 = .ok (.bipush 7, 2) := by decide +kernel
theorem dX1_init_58 : decode cX1_init 58 = .ok (.newarray .long, 2) := by decide +kernel
theorem dX1_init_60 : decode cX1_init 60 = .ok (.putfield 29, 3) := by decide +kernel
theorem dX1_init_63 : decode cX1_init 63 = .ok (.iconst 1, 1) := by decide +kernel
theorem dX1_init_64 : decode cX1_init 64 = .ok (.istore_n 1, 1) := by decide +kernel
theorem dX1_init_65 : decode cX1_init 65 = .ok (.iload_n 1, 1) := by decide +kernel
theorem dX1_init_66 : decode cX1_init 66 = .ok (.bipush 7, 2) := by decide +kernel
theorem dX1_init_68 : decode cX1_init 68 = .ok (.if_icmp .ge 42, 3) := by decide +kernel
theorem dX1_init_71 : decode cX1_init 71 = .ok (.iconst 0, 1) := by decide +kernel
theorem dX1_init_72 : decode cX1_init 72 = .ok (.istore_n 2, 1) := by decide +kernel
theorem dX1_init_73 : decode cX1_init 73 = .ok (.iload_n 2, 1) := by decide +kernel
theorem dX1_init_74 : decode cX1_init 74 = .ok (.bipush 64, 2) := by decide +kernel
theorem dX1_init_76 : decode cX1_init 76 = .ok (.if_icmp .ge 28, 3) := by decide +kernel
theorem dX1_init_79 : decode cX1_init 79 = .ok (.aload_n 0, 1) := by decide +kernel
theorem dX1_init_80 : decode cX1_init 80 = .ok (.getfield 29, 3) := by decide +kernel
theorem dX1_init_83 : decode cX1_init 83 = .ok (.iload_n 1, 1) := by decide +kernel
theorem dX1_init_84 : decode cX1_init 84 = .ok (.dup2, 1) := by decide +kernel
theorem dX1_init_85 : decode cX1_init 85 = .ok (.laload, 1) := by decide +kernel
theorem dX1_init_86 : decode cX1_init 86 = .ok (.iload_n 2, 1) := by decide +kernel
theorem dX1_init_87 : decode cX1_init 87 = .ok (.iload_n 1, 1) := by decide +kernel
theorem dX1_init_88 : decode cX1_init 88 = .ok (.iconst 1, 1) := by decide +kernel
theorem dX1_init_89 : decode cX1_init 89 = .ok (.isub, 1) := by decide +kernel
theorem dX1_init_90 : decode cX1_init 90 = .ok (.ishr, 1) := by decide +kernel
theorem dX1_init_91 : decode cX1_init 91 = .ok (.iconst 1, 1) := by decide +kernel
theorem dX1_init_92 : decode cX1_init 92 = .ok (.iand, 1) := by decide +kernel
theorem dX1_init_93 : decode cX1_init 93 = .ok (.i2l, 1) := by decide +kernel
theorem dX1_init_94 : decode cX1_init 94 = .ok (.iload_n 2, 1) := by decide +kernel
theorem dX1_init_95 : decode cX1_init 95 = .ok (.lshl, 1) := by decide +kernel
theorem dX1_init_96 : decode cX1_init 96 = .ok (.lor, 1) := by decide +kernel
theorem dX1_init_97 : decode cX1_init 97 = .ok (.lastore, 1) := by decide +kernel
theorem dX1_init_98 : decode cX1_init 98 = .ok (.iinc 2 1, 3) := by decide +kernel
theorem dX1_init_101 : decode cX1_init 101 = .ok (.goto (-28), 3) := by decide +kernel
theorem dX1_init_104 : decode cX1_init 104 = .ok (.iinc 1 1, 3) := by decide +kernel
theorem dX1_init_107 : decode cX1_init 107 = .ok (.goto (-42), 3) := by decide +kernel
theorem dX1_init_110 : decode cX1_init 110 = .ok (.iconst 0, 1) := by decide +kernel
theorem dX1_init_111 : decode cX1_init 111 = .ok (.istore_n 1, 1) := by decide +kernel
theorem dX1_init_112 : decode cX1_init 112 = .ok (.iload_n 1, 1) := by decide +kernel
theorem dX1_init_113 : decode cX1_init 113 = .ok (.sipush 1024, 3) := by decide +kernel
theorem dX1_init_116 : decode cX1_init 116 = .ok (.if_icmp .ge 18, 3) := by decide +kernel
theorem dX1_init_119 : decode cX1_init 119 = .ok (.aload_n 0, 1) := by decide +kernel
theorem dX1_init_120 : decode cX1_init 120 = .ok (.getfield 25, 3) := by decide +kernel
theorem dX1_init_123 : decode cX1_init 123 = .ok (.iload_n 1, 1) := by decide +kernel
theorem dX1_init_124 : decode cX1_init 124 = .ok (.ldc2_w 32, 3) := by decide +kernel
theorem dX1_init_127 : decode cX1_init 127 = .ok (.lastore, 1) := by decide +kernel
theorem dX1_init_128 : decode cX1_init 128 = .ok (.iinc 1 1, 3) := by decide +kernel
theorem dX1_init_131 : decode cX1_init 131 = .ok (.goto (-19), 3) := by decide +kernel
theorem dX1_init_134 : decode cX1_init 134 = .ok (.return_, 1) := by decide +kernel
theorem dX1_thrown_0 : decode cX1_thrown 0 = .ok (.aload_n 0, 1) := by decide +kernel
theorem dX1_thrown_1 : decode cX1_thrown 1 = .ok (.getfield 34, 3) := by decide +kernel
theorem dX1_thrown_4 : decode cX1_thrown 4 = .ok (.ireturn, 1) := by decide +kernel
theorem dX1_literal_0 : decode cX1_literal 0 = .ok (.iload_n 1, 1) := by decide +kernel
theorem dX1_literal_1 : decode cX1_literal 1 = .ok (.ifCond .eq 19, 3) := by decide +kernel
theorem dX1_literal_4 : decode cX1_literal 4 = .ok (.iload_n 1, 1) := by decide +kernel
theorem dX1_literal_5 : decode cX1_literal 5 = .ok (.bipush (-16), 2) := by decide +kernel
theorem dX1_literal_7 : decode cX1_literal 7 = .ok (.if_icmp .lt 13, 3) := by decide +kernel
theorem dX1_literal_10 : decode cX1_literal 10 = .ok (.iload_n 1, 1) := by decide +kernel
theorem dX1_literal_11 : decode cX1_literal 11 = .ok (.bipush 16, 2) := by decide +kernel
theorem dX1_literal_13 : decode cX1_literal 13 = .ok (.if_icmp .gt 7, 3) := by decide +kernel
theorem dX1_literal_16 : decode cX1_literal 16 = .ok (.iconst 1, 1) := by decide +kernel
theorem dX1_literal_17 : decode cX1_literal 17 = .ok (.goto 4, 3) := by decide +kernel
theorem dX1_literal_20 : decode cX1_literal 20 = .ok (.iconst 0, 1) := by decide +kernel
theorem dX1_literal_21 : decode cX1_literal 21 = .ok (.istore_n 2, 1) := by decide +kernel
theorem dX1_literal_22 : decode cX1_literal 22 = .ok (.iconst 0, 1) := by decide +kernel
theorem dX1_literal_23 : decode cX1_literal 23 = .ok (.istore_n 3, 1) := by decide +kernel
theorem dX1_literal_24 : decode cX1_literal 24 = .ok (.iload_n 3, 1) := by decide +kernel
theorem dX1_literal_25 : decode cX1_literal 25 = .ok (.aload_n 0, 1) := by decide +kernel
theorem dX1_literal_26 : decode cX1_literal 26 = .ok (.getfield 38, 3) := by decide +kernel
theorem dX1_literal_29 : decode cX1_literal 29 = .ok (.if_icmp .ge 40, 3) := by decide +kernel
theorem dX1_literal_32 : decode cX1_literal 32 = .ok (.iload_n 2, 1) := by decide +kernel
theorem dX1_literal_33 : decode cX1_literal 33 = .ok (.ifCond .eq 36, 3) := by decide +kernel
theorem dX1_literal_36 : decode cX1_literal 36 = .ok (.aload_n 0, 1) := by decide +kernel
theorem dX1_literal_37 : decode cX1_literal 37 = .ok (.getfield 16, 3) := by decide +kernel
theorem dX1_literal_40 : decode cX1_literal 40 = .ok (.iload_n 3, 1) := by decide +kernel
theorem dX1_literal_41 : decode cX1_literal 41 = .ok (.iaload, 1) := by decide +kernel
theorem dX1_literal_42 : decode cX1_literal 42 = .ok (.iload_n 1, 1) := by decide +kernel
theorem dX1_literal_43 : decode cX1_literal 43 = .ok (.if_icmp .eq 18, 3) := by decide +kernel
theorem dX1_literal_46 : decode cX1_literal 46 = .ok (.aload_n 0, 1) := by decide +kernel
theorem dX1_literal_47 : decode cX1_literal 47 = .ok (.getfield 16, 3) := by decide +kernel
theorem dX1_literal_50 : decode cX1_literal 50 = .ok (.iload_n 3, 1) := by decide +kernel
theorem dX1_literal_51 : decode cX1_literal 51 = .ok (.iaload, 1) := by decide +kernel
theorem dX1_literal_52 : decode cX1_literal 52 = .ok (.iload_n 1, 1) := by decide +kernel
theorem dX1_literal_53 : decode cX1_literal 53 = .ok (.ineg, 1) := by decide +kernel
theorem dX1_literal_54 : decode cX1_literal 54 = .ok (.if_icmp .eq 7, 3) := by decide +kernel
theorem dX1_literal_57 : decode cX1_literal 57 = .ok (.iconst 1, 1) := by decide +kernel
theorem dX1_literal_58 : decode cX1_literal 58 = .ok (.goto 4, 3) := by decide +kernel
theorem dX1_literal_61 : decode cX1_literal 61 = .ok (.iconst 0, 1) := by decide +kernel
theorem dX1_literal_62 : decode cX1_literal 62 = .ok (.istore_n 2, 1) := by decide +kernel
theorem dX1_literal_63 : decode cX1_literal 63 = .ok (.iinc 3 1, 3) := by decide +kernel
theorem dX1_literal_66 : decode cX1_literal 66 = .ok (.goto (-42), 3) := by decide +kernel
theorem dX1_literal_69 : decode cX1_literal 69 = .ok (.aload_n 0, 1) := by decide +kernel
theorem dX1_literal_70 : decode cX1_literal 70 = .ok (.iload_n 2, 1) := by decide +kernel
theorem dX1_literal_71 : decode cX1_literal 71 = .ok (.ifCond .eq 7, 3) := by decide +kernel
theorem dX1_literal_74 : decode cX1_literal 74 = .ok (.iconst 0, 1) := by decide +kernel
theorem dX1_literal_75 : decode cX1_literal 75 = .ok (.goto 4, 3) := by decide +kernel
theorem dX1_literal_78 : decode cX1_literal 78 = .ok (.iconst 1, 1) := by decide +kernel
theorem dX1_literal_79 : decode cX1_literal 79 = .ok (.putfield 34, 3) := by decide +kernel
theorem dX1_literal_82 : decode cX1_literal 82 = .ok (.aload_n 0, 1) := by decide +kernel
theorem dX1_literal_83 : decode cX1_literal 83 = .ok (.getfield 34, 3) := by decide +kernel
theorem dX1_literal_86 : decode cX1_literal 86 = .ok (.ifCond .le 5, 3) := by decide +kernel
theorem dX1_literal_89 : decode cX1_literal 89 = .ok (.iconst 0, 1) := by decide +kernel
theorem dX1_literal_90 : decode cX1_literal 90 = .ok (.ireturn, 1) := by decide +kernel
theorem dX1_literal_91 : decode cX1_literal 91 = .ok (.aload_n 0, 1) := by decide +kernel
theorem dX1_literal_92 : decode cX1_literal 92 = .ok (.getfield 16, 3) := by decide +kernel
theorem dX1_literal_95 : decode cX1_literal 95 = .ok (.aload_n 0, 1) := by decide +kernel
theorem dX1_literal_96 : decode cX1_literal 96 = .ok (.getfield 38, 3) := by decide +kernel
theorem dX1_literal_99 : decode cX1_literal 99 = .ok (.iload_n 1, 1) := by decide +kernel
theorem dX1_literal_100 : decode cX1_literal 100 = .ok (.iastore, 1) := by decide +kernel
theorem dX1_literal_101 : decode cX1_literal 101 = .ok (.aload_n 0, 1) := by decide +kernel
theorem dX1_literal_102 : decode cX1_literal 102 = .ok (.dup, 1) := by decide +kernel
theorem dX1_literal_103 : decode cX1_literal 103 = .ok (.getfield 38, 3) := by decide +kernel
theorem dX1_literal_106 : decode cX1_literal 106 = .ok (.iconst 1, 1) := by decide +kernel
theorem dX1_literal_107 : decode cX1_literal 107 = .ok (.iadd, 1) := by decide +kernel
theorem dX1_literal_108 : decode cX1_literal 108 = .ok (.putfield 38, 3) := by decide +kernel
theorem dX1_literal_111 : decode cX1_literal 111 = .ok (.aload_n 0, 1) := by decide +kernel
theorem dX1_literal_112 : decode cX1_literal 112 = .ok (.getfield 38, 3) := by decide +kernel
theorem dX1_literal_115 : decode cX1_literal 115 = .ok (.ireturn, 1) := by decide +kernel
theorem dX1_hint_0 : decode cX1_hint 0 = .ok (.aload_n 0, 1) := by decide +kernel
theorem dX1_hint_1 : decode cX1_hint 1 = .ok (.iload_n 1, 1) := by decide +kernel
theorem dX1_hint_2 : decode cX1_hint 2 = .ok (.ifCond .lt 10, 3) := by decide +kernel
theorem dX1_hint_5 : decode cX1_hint 5 = .ok (.iload_n 1, 1) := by decide +kernel
theorem dX1_hint_6 : decode cX1_hint 6 = .ok (.sipush 599, 3) := by decide +kernel
theorem dX1_hint_9 : decode cX1_hint 9 = .ok (.if_icmp .le 7, 3) := by decide +kernel
theorem dX1_hint_12 : decode cX1_hint 12 = .ok (.iconst 1, 1) := by decide +kernel
theorem dX1_hint_13 : decode cX1_hint 13 = .ok (.goto 17, 3) := by decide +kernel
theorem dX1_hint_16 : decode cX1_hint 16 = .ok (.aload_n 0, 1) := by decide +kernel
theorem dX1_hint_17 : decode cX1_hint 17 = .ok (.getfield 41, 3) := by decide +kernel
theorem dX1_hint_20 : decode cX1_hint 20 = .ok (.bipush 40, 2) := by decide +kernel
theorem dX1_hint_22 : decode cX1_hint 22 = .ok (.if_icmp .ne 7, 3) := by decide +kernel
theorem dX1_hint_25 : decode cX1_hint 25 = .ok (.iconst 2, 1) := by decide +kernel
theorem dX1_hint_26 : decode cX1_hint 26 = .ok (.goto 4, 3) := by decide +kernel
theorem dX1_hint_29 : decode cX1_hint 29 = .ok (.iconst 0, 1) := by decide +kernel
theorem dX1_hint_30 : decode cX1_hint 30 = .ok (.putfield 34, 3) := by decide +kernel
theorem dX1_hint_33 : decode cX1_hint 33 = .ok (.aload_n 0, 1) := by decide +kernel
theorem dX1_hint_34 : decode cX1_hint 34 = .ok (.getfield 34, 3) := by decide +kernel
theorem dX1_hint_37 : decode cX1_hint 37 = .ok (.ifCond .le 5, 3) := by decide +kernel
theorem dX1_hint_40 : decode cX1_hint 40 = .ok (.iconst 0, 1) := by decide +kernel
theorem dX1_hint_41 : decode cX1_hint 41 = .ok (.ireturn, 1) := by decide +kernel
theorem dX1_hint_42 : decode cX1_hint 42 = .ok (.aload_n 0, 1) := by decide +kernel
theorem dX1_hint_43 : decode cX1_hint 43 = .ok (.getfield 19, 3) := by decide +kernel
theorem dX1_hint_46 : decode cX1_hint 46 = .ok (.aload_n 0, 1) := by decide +kernel
theorem dX1_hint_47 : decode cX1_hint 47 = .ok (.getfield 41, 3) := by decide +kernel
theorem dX1_hint_50 : decode cX1_hint 50 = .ok (.iload_n 1, 1) := by decide +kernel
theorem dX1_hint_51 : decode cX1_hint 51 = .ok (.iastore, 1) := by decide +kernel
theorem dX1_hint_52 : decode cX1_hint 52 = .ok (.aload_n 0, 1) := by decide +kernel
theorem dX1_hint_53 : decode cX1_hint 53 = .ok (.dup, 1) := by decide +kernel
theorem dX1_hint_54 : decode cX1_hint 54 = .ok (.getfield 41, 3) := by decide +kernel
theorem dX1_hint_57 : decode cX1_hint 57 = .ok (.iconst 1, 1) := by decide +kernel
theorem dX1_hint_58 : decode cX1_hint 58 = .ok (.iadd, 1) := by decide +kernel
theorem dX1_hint_59 : decode cX1_hint 59 = .ok (.putfield 41, 3) := by decide +kernel
theorem dX1_hint_62 : decode cX1_hint 62 = .ok (.aload_n 0, 1) := by decide +kernel
theorem dX1_hint_63 : decode cX1_hint 63 = .ok (.getfield 41, 3) := by decide +kernel
theorem dX1_hint_66 : decode cX1_hint 66 = .ok (.ireturn, 1) := by decide +kernel
theorem dX1_clear_0 : decode cX1_clear 0 = .ok (.aload_n 0, 1) := by decide +kernel
theorem dX1_clear_1 : decode cX1_clear 1 = .ok (.iconst 0, 1) := by decide +kernel
theorem dX1_clear_2 : decode cX1_clear 2 = .ok (.putfield 34, 3) := by decide +kernel
theorem dX1_clear_5 : decode cX1_clear 5 = .ok (.aload_n 0, 1) := by decide +kernel
theorem dX1_clear_6 : decode cX1_clear 6 = .ok (.getfield 38, 3) := by decide +kernel
theorem dX1_clear_9 : decode cX1_clear 9 = .ok (.aload_n 0, 1) := by decide +kernel
theorem dX1_clear_10 : decode cX1_clear 10 = .ok (.getfield 41, 3) := by decide +kernel
theorem dX1_clear_13 : decode cX1_clear 13 = .ok (.iadd, 1) := by decide +kernel
theorem dX1_clear_14 : decode cX1_clear 14 = .ok (.istore_n 1, 1) := by decide +kernel
theorem dX1_clear_15 : decode cX1_clear 15 = .ok (.aload_n 0, 1) := by decide +kernel
theorem dX1_clear_16 : decode cX1_clear 16 = .ok (.iconst 0, 1) := by decide +kernel
theorem dX1_clear_17 : decode cX1_clear 17 = .ok (.putfield 38, 3) := by decide +kernel
theorem dX1_clear_20 : decode cX1_clear 20 = .ok (.aload_n 0, 1) := by decide +kernel
theorem dX1_clear_21 : decode cX1_clear 21 = .ok (.iconst 0, 1) := by decide +kernel
theorem dX1_clear_22 : decode cX1_clear 22 = .ok (.putfield 41, 3) := by decide +kernel
theorem dX1_clear_25 : decode cX1_clear 25 = .ok (.iload_n 1, 1) := by decide +kernel
theorem dX1_clear_26 : decode cX1_clear 26 = .ok (.ireturn, 1) := by decide +kernel
theorem dX1_isThere_0 : decode cX1_isThere 0 = .ok (.iload_n 1, 1) := by decide +kernel
theorem dX1_isThere_1 : decode cX1_isThere 1 = .ok (.ifCond .lt 24, 3) := by decide +kernel
theorem dX1_isThere_4 : decode cX1_isThere 4 = .ok (.iload_n 1, 1) := by decide +kernel
theorem dX1_isThere_5 : decode cX1_isThere 5 = .ok (.aload_n 0, 1) := by decide +kernel
theorem dX1_isThere_6 : decode cX1_isThere 6 = .ok (.getfield 44, 3) := by decide +kernel
theorem dX1_isThere_9 : decode cX1_isThere 9 = .ok (.if_icmp .ge 16, 3) := by decide +kernel
theorem dX1_isThere_12 : decode cX1_isThere 12 = .ok (.aload_n 0, 1) := by decide +kernel
theorem dX1_isThere_13 : decode cX1_isThere 13 = .ok (.getfield 13, 3) := by decide +kernel
theorem dX1_isThere_16 : decode cX1_isThere 16 = .ok (.iload_n 1, 1) := by decide +kernel
theorem dX1_isThere_17 : decode cX1_isThere 17 = .ok (.iaload, 1) := by decide +kernel
theorem dX1_isThere_18 : decode cX1_isThere 18 = .ok (.ifCond .lt 7, 3) := by decide +kernel
theorem dX1_isThere_21 : decode cX1_isThere 21 = .ok (.iconst 1, 1) := by decide +kernel
theorem dX1_isThere_22 : decode cX1_isThere 22 = .ok (.goto 4, 3) := by decide +kernel
theorem dX1_isThere_25 : decode cX1_isThere 25 = .ok (.iconst 0, 1) := by decide +kernel
theorem dX1_isThere_26 : decode cX1_isThere 26 = .ok (.ireturn, 1) := by decide +kernel
theorem dX1_add_0 : decode cX1_add 0 = .ok (.iconst 0, 1) := by decide +kernel
theorem dX1_add_1 : decode cX1_add 1 = .ok (.istore_n 1, 1) := by decide +kernel
theorem dX1_add_2 : decode cX1_add 2 = .ok (.iload_n 1, 1) := by decide +kernel
theorem dX1_add_3 : decode cX1_add 3 = .ok (.aload_n 0, 1) := by decide +kernel
theorem dX1_add_4 : decode cX1_add 4 = .ok (.getfield 38, 3) := by decide +kernel
theorem dX1_add_7 : decode cX1_add 7 = .ok (.if_icmp .ge 29, 3) := by decide +kernel
theorem dX1_add_10 : decode cX1_add 10 = .ok (.aload_n 0, 1) := by decide +kernel
theorem dX1_add_11 : decode cX1_add 11 = .ok (.getfield 7, 3) := by decide +kernel
theorem dX1_add_14 : decode cX1_add 14 = .ok (.bipush 16, 2) := by decide +kernel
theorem dX1_add_16 : decode cX1_add 16 = .ok (.aload_n 0, 1) := by decide +kernel
theorem dX1_add_17 : decode cX1_add 17 = .ok (.getfield 44, 3) := by decide +kernel
theorem dX1_add_20 : decode cX1_add 20 = .ok (.imul, 1) := by decide +kernel
theorem dX1_add_21 : decode cX1_add 21 = .ok (.iload_n 1, 1) := by decide +kernel
theorem dX1_add_22 : decode cX1_add 22 = .ok (.iadd, 1) := by decide +kernel
theorem dX1_add_23 : decode cX1_add 23 = .ok (.aload_n 0, 1) := by decide +kernel
theorem dX1_add_24 : decode cX1_add 24 = .ok (.getfield 16, 3) := by decide +kernel
theorem dX1_add_27 : decode cX1_add 27 = .ok (.iload_n 1, 1) := by decide +kernel
theorem dX1_add_28 : decode cX1_add 28 = .ok (.iaload, 1) := by decide +kernel
theorem dX1_add_29 : decode cX1_add 29 = .ok (.iastore, 1) := by decide +kernel
theorem dX1_add_30 : decode cX1_add 30 = .ok (.iinc 1 1, 3) := by decide +kernel
theorem dX1_add_33 : decode cX1_add 33 = .ok (.goto (-31), 3) := by decide +kernel
theorem dX1_add_36 : decode cX1_add 36 = .ok (.aload_n 0, 1) := by decide +kernel
theorem dX1_add_37 : decode cX1_add 37 = .ok (.getfield 13, 3) := by decide +kernel
theorem dX1_add_40 : decode cX1_add 40 = .ok (.aload_n 0, 1) := by decide +kernel
theorem dX1_add_41 : decode cX1_add 41 = .ok (.getfield 44, 3) := by decide +kernel
theorem dX1_add_44 : decode cX1_add 44 = .ok (.aload_n 0, 1) := by decide +kernel
theorem dX1_add_45 : decode cX1_add 45 = .ok (.getfield 38, 3) := by decide +kernel
theorem dX1_add_48 : decode cX1_add 48 = .ok (.iastore, 1) := by decide +kernel
theorem dX1_add_49 : decode cX1_add 49 = .ok (.aload_n 0, 1) := by decide +kernel
theorem dX1_add_50 : decode cX1_add 50 = .ok (.iconst 0, 1) := by decide +kernel
theorem dX1_add_51 : decode cX1_add 51 = .ok (.putfield 38, 3) := by decide +kernel
theorem dX1_add_54 : decode cX1_add 54 = .ok (.aload_n 0, 1) := by decide +kernel
theorem dX1_add_55 : decode cX1_add 55 = .ok (.dup, 1) := by decide +kernel
theorem dX1_add_56 : decode cX1_add 56 = .ok (.getfield 47, 3) := by decide +kernel
theorem dX1_add_59 : decode cX1_add 59 = .ok (.iconst 1, 1) := by decide +kernel
theorem dX1_add_60 : decode cX1_add 60 = .ok (.iadd, 1) := by decide +kernel
theorem dX1_add_61 : decode cX1_add 61 = .ok (.putfield 47, 3) := by decide +kernel
theorem dX1_add_64 : decode cX1_add 64 = .ok (.aload_n 0, 1) := by decide +kernel
theorem dX1_add_65 : decode cX1_add 65 = .ok (.dup, 1) := by decide +kernel
theorem dX1_add_66 : decode cX1_add 66 = .ok (.getfield 44, 3) := by decide +kernel
theorem dX1_add_69 : decode cX1_add 69 = .ok (.iconst 1, 1) := by decide +kernel
theorem dX1_add_70 : decode cX1_add 70 = .ok (.iadd, 1) := by decide +kernel
theorem dX1_add_71 : decode cX1_add 71 = .ok (.putfield 44, 3) := by decide +kernel
theorem dX1_add_74 : decode cX1_add 74 = .ok (.aload_n 0, 1) := by decide +kernel
theorem dX1_add_75 : decode cX1_add 75 = .ok (.getfield 44, 3) := by decide +kernel
theorem dX1_add_78 : decode cX1_add 78 = .ok (.iconst 1, 1) := by decide +kernel
theorem dX1_add_79 : decode cX1_add 79 = .ok (.isub, 1) := by decide +kernel
theorem dX1_add_80 : decode cX1_add 80 = .ok (.ireturn, 1) := by decide +kernel
theorem dX1_truths_0 : decode cX1_truths 0 = .ok (.iload_n 1, 1) := by decide +kernel
theorem dX1_truths_1 : decode cX1_truths 1 = .ok (.bipush 7, 2) := by decide +kernel
theorem dX1_truths_3 : decode cX1_truths 3 = .ok (.if_icmp .ge 12, 3) := by decide +kernel
theorem dX1_truths_6 : decode cX1_truths 6 = .ok (.aload_n 0, 1) := by decide +kernel
theorem dX1_truths_7 : decode cX1_truths 7 = .ok (.getfield 29, 3) := by decide +kernel
theorem dX1_truths_10 : decode cX1_truths 10 = .ok (.iload_n 1, 1) := by decide +kernel
theorem dX1_truths_11 : decode cX1_truths 11 = .ok (.laload, 1) := by decide +kernel
theorem dX1_truths_12 : decode cX1_truths 12 = .ok (.goto 22, 3) := by decide +kernel
theorem dX1_truths_15 : decode cX1_truths 15 = .ok (.iload_n 2, 1) := by decide +kernel
theorem dX1_truths_16 : decode cX1_truths 16 = .ok (.iload_n 1, 1) := by decide +kernel
theorem dX1_truths_17 : decode cX1_truths 17 = .ok (.bipush 7, 2) := by decide +kernel
theorem dX1_truths_19 : decode cX1_truths 19 = .ok (.isub, 1) := by decide +kernel
theorem dX1_truths_20 : decode cX1_truths 20 = .ok (.ishr, 1) := by decide +kernel
theorem dX1_truths_21 : decode cX1_truths 21 = .ok (.iconst 1, 1) := by decide +kernel
theorem dX1_truths_22 : decode cX1_truths 22 = .ok (.iand, 1) := by decide +kernel
theorem dX1_truths_23 : decode cX1_truths 23 = .ok (.iconst 1, 1) := by decide +kernel
theorem dX1_truths_24 : decode cX1_truths 24 = .ok (.if_icmp .ne 9, 3) := by decide +kernel
theorem dX1_truths_27 : decode cX1_truths 27 = .ok (.ldc2_w 32, 3) := by decide +kernel
theorem dX1_truths_30 : decode cX1_truths 30 = .ok (.goto 4, 3) := by decide +kernel
theorem dX1_truths_33 : decode cX1_truths 33 = .ok (.lconst 0, 1) := by decide +kernel
theorem dX1_truths_34 : decode cX1_truths 34 = .ok (.lreturn, 1) := by decide +kernel
theorem dX1_trueIn_0 : decode cX1_trueIn 0 = .ok (.lconst 0, 1) := by decide +kernel
theorem dX1_trueIn_1 : decode cX1_trueIn 1 = .ok (.lstore_n 2, 1) := by decide +kernel
theorem dX1_trueIn_2 : decode cX1_trueIn 2 = .ok (.iconst 0, 1) := by decide +kernel
theorem dX1_trueIn_3 : decode cX1_trueIn 3 = .ok (.istore 4, 2) := by decide +kernel
theorem dX1_trueIn_5 : decode cX1_trueIn 5 = .ok (.iload 4, 2) := by decide +kernel
theorem dX1_trueIn_7 : decode cX1_trueIn 7 = .ok (.aload_n 0, 1) := by decide +kernel
theorem dX1_trueIn_8 : decode cX1_trueIn 8 = .ok (.getfield 38, 3) := by decide +kernel
theorem dX1_trueIn_11 : decode cX1_trueIn 11 = .ok (.if_icmp .ge 48, 3) := by decide +kernel
theorem dX1_trueIn_14 : decode cX1_trueIn 14 = .ok (.aload_n 0, 1) := by decide +kernel
theorem dX1_trueIn_15 : decode cX1_trueIn 15 = .ok (.getfield 16, 3) := by decide +kernel
theorem dX1_trueIn_18 : decode cX1_trueIn 18 = .ok (.iload 4, 2) := by decide +kernel
theorem dX1_trueIn_20 : decode cX1_trueIn 20 = .ok (.iaload, 1) := by decide +kernel
theorem dX1_trueIn_21 : decode cX1_trueIn 21 = .ok (.istore 5, 2) := by decide +kernel
theorem dX1_trueIn_23 : decode cX1_trueIn 23 = .ok (.lload_n 2, 1) := by decide +kernel
theorem dX1_trueIn_24 : decode cX1_trueIn 24 = .ok (.iload 5, 2) := by decide +kernel
theorem dX1_trueIn_26 : decode cX1_trueIn 26 = .ok (.ifCond .le 13, 3) := by decide +kernel
theorem dX1_trueIn_29 : decode cX1_trueIn 29 = .ok (.aload_n 0, 1) := by decide +kernel
theorem dX1_trueIn_30 : decode cX1_trueIn 30 = .ok (.iload 5, 2) := by decide +kernel
theorem dX1_trueIn_32 : decode cX1_trueIn 32 = .ok (.iload_n 1, 1) := by decide +kernel
theorem dX1_trueIn_33 : decode cX1_trueIn 33 = .ok (.invokevirtual 50, 3) := by decide +kernel
theorem dX1_trueIn_36 : decode cX1_trueIn 36 = .ok (.goto 15, 3) := by decide +kernel
theorem dX1_trueIn_39 : decode cX1_trueIn 39 = .ok (.aload_n 0, 1) := by decide +kernel
theorem dX1_trueIn_40 : decode cX1_trueIn 40 = .ok (.iload 5, 2) := by decide +kernel
theorem dX1_trueIn_42 : decode cX1_trueIn 42 = .ok (.ineg, 1) := by decide +kernel
theorem dX1_trueIn_43 : decode cX1_trueIn 43 = .ok (.iload_n 1, 1) := by decide +kernel
theorem dX1_trueIn_44 : decode cX1_trueIn 44 = .ok (.invokevirtual 50, 3) := by decide +kernel
theorem dX1_trueIn_47 : decode cX1_trueIn 47 = .ok (.ldc2_w 32, 3) := by decide +kernel
theorem dX1_trueIn_50 : decode cX1_trueIn 50 = .ok (.lxor, 1) := by decide +kernel
theorem dX1_trueIn_51 : decode cX1_trueIn 51 = .ok (.lor, 1) := by decide +kernel
theorem dX1_trueIn_52 : decode cX1_trueIn 52 = .ok (.lstore_n 2, 1) := by decide +kernel
theorem dX1_trueIn_53 : decode cX1_trueIn 53 = .ok (.iinc 4 1, 3) := by decide +kernel
theorem dX1_trueIn_56 : decode cX1_trueIn 56 = .ok (.goto (-51), 3) := by decide +kernel
theorem dX1_trueIn_59 : decode cX1_trueIn 59 = .ok (.lload_n 2, 1) := by decide +kernel
theorem dX1_trueIn_60 : decode cX1_trueIn 60 = .ok (.lreturn, 1) := by decide +kernel
theorem dX1_give_0 : decode cX1_give 0 = .ok (.aload_n 0, 1) := by decide +kernel
theorem dX1_give_1 : decode cX1_give 1 = .ok (.aload_n 0, 1) := by decide +kernel
theorem dX1_give_2 : decode cX1_give 2 = .ok (.getfield 44, 3) := by decide +kernel
theorem dX1_give_5 : decode cX1_give 5 = .ok (.sipush 600, 3) := by decide +kernel
theorem dX1_give_8 : decode cX1_give 8 = .ok (.if_icmp .ne 7, 3) := by decide +kernel
theorem dX1_give_11 : decode cX1_give 11 = .ok (.iconst 1, 1) := by decide +kernel
theorem dX1_give_12 : decode cX1_give 12 = .ok (.goto 4, 3) := by decide +kernel
theorem dX1_give_15 : decode cX1_give 15 = .ok (.iconst 0, 1) := by decide +kernel
theorem dX1_give_16 : decode cX1_give 16 = .ok (.putfield 34, 3) := by decide +kernel
theorem dX1_give_19 : decode cX1_give 19 = .ok (.aload_n 0, 1) := by decide +kernel
theorem dX1_give_20 : decode cX1_give 20 = .ok (.getfield 34, 3) := by decide +kernel
theorem dX1_give_23 : decode cX1_give 23 = .ok (.ifCond .le 5, 3) := by decide +kernel
theorem dX1_give_26 : decode cX1_give 26 = .ok (.iconst 0, 1) := by decide +kernel
theorem dX1_give_27 : decode cX1_give 27 = .ok (.ireturn, 1) := by decide +kernel
theorem dX1_give_28 : decode cX1_give 28 = .ok (.iconst 0, 1) := by decide +kernel
theorem dX1_give_29 : decode cX1_give 29 = .ok (.istore_n 1, 1) := by decide +kernel
theorem dX1_give_30 : decode cX1_give 30 = .ok (.iload_n 1, 1) := by decide +kernel
theorem dX1_give_31 : decode cX1_give 31 = .ok (.sipush 1024, 3) := by decide +kernel
theorem dX1_give_34 : decode cX1_give 34 = .ok (.if_icmp .ge 38, 3) := by decide +kernel
theorem dX1_give_37 : decode cX1_give 37 = .ok (.aload_n 0, 1) := by decide +kernel
theorem dX1_give_38 : decode cX1_give 38 = .ok (.getfield 25, 3) := by decide +kernel
theorem dX1_give_41 : decode cX1_give 41 = .ok (.iload_n 1, 1) := by decide +kernel
theorem dX1_give_42 : decode cX1_give 42 = .ok (.dup2, 1) := by decide +kernel
theorem dX1_give_43 : decode cX1_give 43 = .ok (.laload, 1) := by decide +kernel
theorem dX1_give_44 : decode cX1_give 44 = .ok (.aload_n 0, 1) := by decide +kernel
theorem dX1_give_45 : decode cX1_give 45 = .ok (.getfield 25, 3) := by decide +kernel
theorem dX1_give_48 : decode cX1_give 48 = .ok (.iload_n 1, 1) := by decide +kernel
theorem dX1_give_49 : decode cX1_give 49 = .ok (.laload, 1) := by decide +kernel
theorem dX1_give_50 : decode cX1_give 50 = .ok (.lconst 0, 1) := by decide +kernel
theorem dX1_give_51 : decode cX1_give 51 = .ok (.lcmp, 1) := by decide +kernel
theorem dX1_give_52 : decode cX1_give 52 = .ok (.ifCond .ne 7, 3) := by decide +kernel
theorem dX1_give_55 : decode cX1_give 55 = .ok (.lconst 0, 1) := by decide +kernel
theorem dX1_give_56 : decode cX1_give 56 = .ok (.goto 8, 3) := by decide +kernel
theorem dX1_give_59 : decode cX1_give 59 = .ok (.aload_n 0, 1) := by decide +kernel
theorem dX1_give_60 : decode cX1_give 60 = .ok (.iload_n 1, 1) := by decide +kernel
theorem dX1_give_61 : decode cX1_give 61 = .ok (.invokevirtual 54, 3) := by decide +kernel
theorem dX1_give_64 : decode cX1_give 64 = .ok (.land, 1) := by decide +kernel
theorem dX1_give_65 : decode cX1_give 65 = .ok (.lastore, 1) := by decide +kernel
theorem dX1_give_66 : decode cX1_give 66 = .ok (.iinc 1 1, 3) := by decide +kernel
theorem dX1_give_69 : decode cX1_give 69 = .ok (.goto (-39), 3) := by decide +kernel
theorem dX1_give_72 : decode cX1_give 72 = .ok (.aload_n 0, 1) := by decide +kernel
theorem dX1_give_73 : decode cX1_give 73 = .ok (.invokevirtual 58, 3) := by decide +kernel
theorem dX1_give_76 : decode cX1_give 76 = .ok (.ireturn, 1) := by decide +kernel
theorem dX1_accept_0 : decode cX1_accept 0 = .ok (.iconst 1, 1) := by decide +kernel
theorem dX1_accept_1 : decode cX1_accept 1 = .ok (.istore_n 1, 1) := by decide +kernel
theorem dX1_accept_2 : decode cX1_accept 2 = .ok (.iconst 0, 1) := by decide +kernel
theorem dX1_accept_3 : decode cX1_accept 3 = .ok (.istore_n 2, 1) := by decide +kernel
theorem dX1_accept_4 : decode cX1_accept 4 = .ok (.iload_n 2, 1) := by decide +kernel
theorem dX1_accept_5 : decode cX1_accept 5 = .ok (.sipush 1024, 3) := by decide +kernel
theorem dX1_accept_8 : decode cX1_accept 8 = .ok (.if_icmp .ge 51, 3) := by decide +kernel
theorem dX1_accept_11 : decode cX1_accept 11 = .ok (.iload_n 1, 1) := by decide +kernel
theorem dX1_accept_12 : decode cX1_accept 12 = .ok (.ifCond .eq 47, 3) := by decide +kernel
theorem dX1_accept_15 : decode cX1_accept 15 = .ok (.aload_n 0, 1) := by decide +kernel
theorem dX1_accept_16 : decode cX1_accept 16 = .ok (.getfield 25, 3) := by decide +kernel
theorem dX1_accept_19 : decode cX1_accept 19 = .ok (.iload_n 2, 1) := by decide +kernel
theorem dX1_accept_20 : decode cX1_accept 20 = .ok (.laload, 1) := by decide +kernel
theorem dX1_accept_21 : decode cX1_accept 21 = .ok (.lconst 0, 1) := by decide +kernel
theorem dX1_accept_22 : decode cX1_accept 22 = .ok (.lcmp, 1) := by decide +kernel
theorem dX1_accept_23 : decode cX1_accept 23 = .ok (.ifCond .eq 24, 3) := by decide +kernel
theorem dX1_accept_26 : decode cX1_accept 26 = .ok (.aload_n 0, 1) := by decide +kernel
theorem dX1_accept_27 : decode cX1_accept 27 = .ok (.getfield 25, 3) := by decide +kernel
theorem dX1_accept_30 : decode cX1_accept 30 = .ok (.iload_n 2, 1) := by decide +kernel
theorem dX1_accept_31 : decode cX1_accept 31 = .ok (.laload, 1) := by decide +kernel
theorem dX1_accept_32 : decode cX1_accept 32 = .ok (.aload_n 0, 1) := by decide +kernel
theorem dX1_accept_33 : decode cX1_accept 33 = .ok (.iload_n 2, 1) := by decide +kernel
theorem dX1_accept_34 : decode cX1_accept 34 = .ok (.invokevirtual 54, 3) := by decide +kernel
theorem dX1_accept_37 : decode cX1_accept 37 = .ok (.ldc2_w 32, 3) := by decide +kernel
theorem dX1_accept_40 : decode cX1_accept 40 = .ok (.lxor, 1) := by decide +kernel
theorem dX1_accept_41 : decode cX1_accept 41 = .ok (.land, 1) := by decide +kernel
theorem dX1_accept_42 : decode cX1_accept 42 = .ok (.lconst 0, 1) := by decide +kernel
theorem dX1_accept_43 : decode cX1_accept 43 = .ok (.lcmp, 1) := by decide +kernel
theorem dX1_accept_44 : decode cX1_accept 44 = .ok (.ifCond .ne 7, 3) := by decide +kernel
theorem dX1_accept_47 : decode cX1_accept 47 = .ok (.iconst 1, 1) := by decide +kernel
theorem dX1_accept_48 : decode cX1_accept 48 = .ok (.goto 4, 3) := by decide +kernel
theorem dX1_accept_51 : decode cX1_accept 51 = .ok (.iconst 0, 1) := by decide +kernel
theorem dX1_accept_52 : decode cX1_accept 52 = .ok (.istore_n 1, 1) := by decide +kernel
theorem dX1_accept_53 : decode cX1_accept 53 = .ok (.iinc 2 1, 3) := by decide +kernel
theorem dX1_accept_56 : decode cX1_accept 56 = .ok (.goto (-52), 3) := by decide +kernel
theorem dX1_accept_59 : decode cX1_accept 59 = .ok (.aload_n 0, 1) := by decide +kernel
theorem dX1_accept_60 : decode cX1_accept 60 = .ok (.dup, 1) := by decide +kernel
theorem dX1_accept_61 : decode cX1_accept 61 = .ok (.getfield 62, 3) := by decide +kernel
theorem dX1_accept_64 : decode cX1_accept 64 = .ok (.iload_n 1, 1) := by decide +kernel
theorem dX1_accept_65 : decode cX1_accept 65 = .ok (.ifCond .eq 7, 3) := by decide +kernel
theorem dX1_accept_68 : decode cX1_accept 68 = .ok (.iconst 0, 1) := by decide +kernel
theorem dX1_accept_69 : decode cX1_accept 69 = .ok (.goto 4, 3) := by decide +kernel
theorem dX1_accept_72 : decode cX1_accept 72 = .ok (.iconst 1, 1) := by decide +kernel
theorem dX1_accept_73 : decode cX1_accept 73 = .ok (.iadd, 1) := by decide +kernel
theorem dX1_accept_74 : decode cX1_accept 74 = .ok (.putfield 62, 3) := by decide +kernel
theorem dX1_accept_77 : decode cX1_accept 77 = .ok (.aload_n 0, 1) := by decide +kernel
theorem dX1_accept_78 : decode cX1_accept 78 = .ok (.dup, 1) := by decide +kernel
theorem dX1_accept_79 : decode cX1_accept 79 = .ok (.getfield 65, 3) := by decide +kernel
theorem dX1_accept_82 : decode cX1_accept 82 = .ok (.iconst 1, 1) := by decide +kernel
theorem dX1_accept_83 : decode cX1_accept 83 = .ok (.iadd, 1) := by decide +kernel
theorem dX1_accept_84 : decode cX1_accept 84 = .ok (.putfield 65, 3) := by decide +kernel
theorem dX1_accept_87 : decode cX1_accept 87 = .ok (.aload_n 0, 1) := by decide +kernel
theorem dX1_accept_88 : decode cX1_accept 88 = .ok (.invokevirtual 58, 3) := by decide +kernel
theorem dX1_accept_91 : decode cX1_accept 91 = .ok (.ireturn, 1) := by decide +kernel
theorem dX1_of_0 : decode cX1_of 0 = .ok (.aload_n 0, 1) := by decide +kernel
theorem dX1_of_1 : decode cX1_of 1 = .ok (.getfield 22, 3) := by decide +kernel
theorem dX1_of_4 : decode cX1_of 4 = .ok (.iload_n 1, 1) := by decide +kernel
theorem dX1_of_5 : decode cX1_of 5 = .ok (.ifCond .le 7, 3) := by decide +kernel
theorem dX1_of_8 : decode cX1_of 8 = .ok (.iload_n 1, 1) := by decide +kernel
theorem dX1_of_9 : decode cX1_of 9 = .ok (.goto 5, 3) := by decide +kernel
theorem dX1_of_12 : decode cX1_of 12 = .ok (.iload_n 1, 1) := by decide +kernel
theorem dX1_of_13 : decode cX1_of 13 = .ok (.ineg, 1) := by decide +kernel
theorem dX1_of_14 : decode cX1_of 14 = .ok (.iaload, 1) := by decide +kernel
theorem dX1_of_15 : decode cX1_of 15 = .ok (.istore_n 2, 1) := by decide +kernel
theorem dX1_of_16 : decode cX1_of 16 = .ok (.iload_n 2, 1) := by decide +kernel
theorem dX1_of_17 : decode cX1_of 17 = .ok (.ifCond .eq 7, 3) := by decide +kernel
theorem dX1_of_20 : decode cX1_of 20 = .ok (.iload_n 1, 1) := by decide +kernel
theorem dX1_of_21 : decode cX1_of 21 = .ok (.ifCond .le 7, 3) := by decide +kernel
theorem dX1_of_24 : decode cX1_of 24 = .ok (.iload_n 2, 1) := by decide +kernel
theorem dX1_of_25 : decode cX1_of 25 = .ok (.goto 6, 3) := by decide +kernel
theorem dX1_of_28 : decode cX1_of 28 = .ok (.iconst 3, 1) := by decide +kernel
theorem dX1_of_29 : decode cX1_of 29 = .ok (.iload_n 2, 1) := by decide +kernel
theorem dX1_of_30 : decode cX1_of 30 = .ok (.isub, 1) := by decide +kernel
theorem dX1_of_31 : decode cX1_of 31 = .ok (.ireturn, 1) := by decide +kernel
theorem dX1_tell_0 : decode cX1_tell 0 = .ok (.aload_n 0, 1) := by decide +kernel
theorem dX1_tell_1 : decode cX1_tell 1 = .ok (.getfield 22, 3) := by decide +kernel
theorem dX1_tell_4 : decode cX1_tell 4 = .ok (.iload_n 1, 1) := by decide +kernel
theorem dX1_tell_5 : decode cX1_tell 5 = .ok (.ifCond .le 7, 3) := by decide +kernel
theorem dX1_tell_8 : decode cX1_tell 8 = .ok (.iload_n 1, 1) := by decide +kernel
theorem dX1_tell_9 : decode cX1_tell 9 = .ok (.goto 5, 3) := by decide +kernel
theorem dX1_tell_12 : decode cX1_tell 12 = .ok (.iload_n 1, 1) := by decide +kernel
theorem dX1_tell_13 : decode cX1_tell 13 = .ok (.ineg, 1) := by decide +kernel
theorem dX1_tell_14 : decode cX1_tell 14 = .ok (.iload_n 1, 1) := by decide +kernel
theorem dX1_tell_15 : decode cX1_tell 15 = .ok (.ifCond .le 7, 3) := by decide +kernel
theorem dX1_tell_18 : decode cX1_tell 18 = .ok (.iconst 1, 1) := by decide +kernel
theorem dX1_tell_19 : decode cX1_tell 19 = .ok (.goto 4, 3) := by decide +kernel
theorem dX1_tell_22 : decode cX1_tell 22 = .ok (.iconst 2, 1) := by decide +kernel
theorem dX1_tell_23 : decode cX1_tell 23 = .ok (.iastore, 1) := by decide +kernel
theorem dX1_tell_24 : decode cX1_tell 24 = .ok (.return_, 1) := by decide +kernel
theorem dX1_setOut_0 : decode cX1_setOut 0 = .ok (.iconst 0, 1) := by decide +kernel
theorem dX1_setOut_1 : decode cX1_setOut 1 = .ok (.istore_n 1, 1) := by decide +kernel
theorem dX1_setOut_2 : decode cX1_setOut 2 = .ok (.iload_n 1, 1) := by decide +kernel
theorem dX1_setOut_3 : decode cX1_setOut 3 = .ok (.bipush 16, 2) := by decide +kernel
theorem dX1_setOut_5 : decode cX1_setOut 5 = .ok (.if_icmp .gt 16, 3) := by decide +kernel
theorem dX1_setOut_8 : decode cX1_setOut 8 = .ok (.aload_n 0, 1) := by decide +kernel
theorem dX1_setOut_9 : decode cX1_setOut 9 = .ok (.getfield 22, 3) := by decide +kernel
theorem dX1_setOut_12 : decode cX1_setOut 12 = .ok (.iload_n 1, 1) := by decide +kernel
theorem dX1_setOut_13 : decode cX1_setOut 13 = .ok (.iconst 0, 1) := by decide +kernel
theorem dX1_setOut_14 : decode cX1_setOut 14 = .ok (.iastore, 1) := by decide +kernel
theorem dX1_setOut_15 : decode cX1_setOut 15 = .ok (.iinc 1 1, 3) := by decide +kernel
theorem dX1_setOut_18 : decode cX1_setOut 18 = .ok (.goto (-16), 3) := by decide +kernel
theorem dX1_setOut_21 : decode cX1_setOut 21 = .ok (.iconst 0, 1) := by decide +kernel
theorem dX1_setOut_22 : decode cX1_setOut 22 = .ok (.istore_n 1, 1) := by decide +kernel
theorem dX1_setOut_23 : decode cX1_setOut 23 = .ok (.iload_n 1, 1) := by decide +kernel
theorem dX1_setOut_24 : decode cX1_setOut 24 = .ok (.aload_n 0, 1) := by decide +kernel
theorem dX1_setOut_25 : decode cX1_setOut 25 = .ok (.getfield 38, 3) := by decide +kernel
theorem dX1_setOut_28 : decode cX1_setOut 28 = .ok (.if_icmp .ge 20, 3) := by decide +kernel
theorem dX1_setOut_31 : decode cX1_setOut 31 = .ok (.aload_n 0, 1) := by decide +kernel
theorem dX1_setOut_32 : decode cX1_setOut 32 = .ok (.aload_n 0, 1) := by decide +kernel
theorem dX1_setOut_33 : decode cX1_setOut 33 = .ok (.getfield 16, 3) := by decide +kernel
theorem dX1_setOut_36 : decode cX1_setOut 36 = .ok (.iload_n 1, 1) := by decide +kernel
theorem dX1_setOut_37 : decode cX1_setOut 37 = .ok (.iaload, 1) := by decide +kernel
theorem dX1_setOut_38 : decode cX1_setOut 38 = .ok (.ineg, 1) := by decide +kernel
theorem dX1_setOut_39 : decode cX1_setOut 39 = .ok (.invokevirtual 68, 3) := by decide +kernel
theorem dX1_setOut_42 : decode cX1_setOut 42 = .ok (.iinc 1 1, 3) := by decide +kernel
theorem dX1_setOut_45 : decode cX1_setOut 45 = .ok (.goto (-22), 3) := by decide +kernel
theorem dX1_setOut_48 : decode cX1_setOut 48 = .ok (.return_, 1) := by decide +kernel
theorem dX1_says_0 : decode cX1_says 0 = .ok (.iconst 0, 1) := by decide +kernel
theorem dX1_says_1 : decode cX1_says 1 = .ok (.istore_n 2, 1) := by decide +kernel
theorem dX1_says_2 : decode cX1_says 2 = .ok (.iconst 0, 1) := by decide +kernel
theorem dX1_says_3 : decode cX1_says 3 = .ok (.istore_n 3, 1) := by decide +kernel
theorem dX1_says_4 : decode cX1_says 4 = .ok (.bipush 16, 2) := by decide +kernel
theorem dX1_says_6 : decode cX1_says 6 = .ok (.iload_n 1, 1) := by decide +kernel
theorem dX1_says_7 : decode cX1_says 7 = .ok (.imul, 1) := by decide +kernel
theorem dX1_says_8 : decode cX1_says 8 = .ok (.istore 4, 2) := by decide +kernel
theorem dX1_says_10 : decode cX1_says 10 = .ok (.iload 4, 2) := by decide +kernel
theorem dX1_says_12 : decode cX1_says 12 = .ok (.bipush 16, 2) := by decide +kernel
theorem dX1_says_14 : decode cX1_says 14 = .ok (.iload_n 1, 1) := by decide +kernel
theorem dX1_says_15 : decode cX1_says 15 = .ok (.imul, 1) := by decide +kernel
theorem dX1_says_16 : decode cX1_says 16 = .ok (.aload_n 0, 1) := by decide +kernel
theorem dX1_says_17 : decode cX1_says 17 = .ok (.getfield 13, 3) := by decide +kernel
theorem dX1_says_20 : decode cX1_says 20 = .ok (.iload_n 1, 1) := by decide +kernel
theorem dX1_says_21 : decode cX1_says 21 = .ok (.iaload, 1) := by decide +kernel
theorem dX1_says_22 : decode cX1_says 22 = .ok (.iadd, 1) := by decide +kernel
theorem dX1_says_23 : decode cX1_says 23 = .ok (.if_icmp .ge 74, 3) := by decide +kernel
theorem dX1_says_26 : decode cX1_says 26 = .ok (.aload_n 0, 1) := by decide +kernel
theorem dX1_says_27 : decode cX1_says 27 = .ok (.aload_n 0, 1) := by decide +kernel
theorem dX1_says_28 : decode cX1_says 28 = .ok (.getfield 7, 3) := by decide +kernel
theorem dX1_says_31 : decode cX1_says 31 = .ok (.iload 4, 2) := by decide +kernel
theorem dX1_says_33 : decode cX1_says 33 = .ok (.iaload, 1) := by decide +kernel
theorem dX1_says_34 : decode cX1_says 34 = .ok (.invokevirtual 72, 3) := by decide +kernel
theorem dX1_says_37 : decode cX1_says 37 = .ok (.iconst 1, 1) := by decide +kernel
theorem dX1_says_38 : decode cX1_says 38 = .ok (.if_icmp .ne 5, 3) := by decide +kernel
theorem dX1_says_41 : decode cX1_says 41 = .ok (.iconst 0, 1) := by decide +kernel
theorem dX1_says_42 : decode cX1_says 42 = .ok (.ireturn, 1) := by decide +kernel
theorem dX1_says_43 : decode cX1_says 43 = .ok (.iload_n 2, 1) := by decide +kernel
theorem dX1_says_44 : decode cX1_says 44 = .ok (.aload_n 0, 1) := by decide +kernel
theorem dX1_says_45 : decode cX1_says 45 = .ok (.aload_n 0, 1) := by decide +kernel
theorem dX1_says_46 : decode cX1_says 46 = .ok (.getfield 7, 3) := by decide +kernel
theorem dX1_says_49 : decode cX1_says 49 = .ok (.iload 4, 2) := by decide +kernel
theorem dX1_says_51 : decode cX1_says 51 = .ok (.iaload, 1) := by decide +kernel
theorem dX1_says_52 : decode cX1_says 52 = .ok (.invokevirtual 72, 3) := by decide +kernel
theorem dX1_says_55 : decode cX1_says 55 = .ok (.ifCond .ne 7, 3) := by decide +kernel
theorem dX1_says_58 : decode cX1_says 58 = .ok (.iconst 1, 1) := by decide +kernel
theorem dX1_says_59 : decode cX1_says 59 = .ok (.goto 4, 3) := by decide +kernel
theorem dX1_says_62 : decode cX1_says 62 = .ok (.iconst 0, 1) := by decide +kernel
theorem dX1_says_63 : decode cX1_says 63 = .ok (.iadd, 1) := by decide +kernel
theorem dX1_says_64 : decode cX1_says 64 = .ok (.istore_n 2, 1) := by decide +kernel
theorem dX1_says_65 : decode cX1_says 65 = .ok (.aload_n 0, 1) := by decide +kernel
theorem dX1_says_66 : decode cX1_says 66 = .ok (.aload_n 0, 1) := by decide +kernel
theorem dX1_says_67 : decode cX1_says 67 = .ok (.getfield 7, 3) := by decide +kernel
theorem dX1_says_70 : decode cX1_says 70 = .ok (.iload 4, 2) := by decide +kernel
theorem dX1_says_72 : decode cX1_says 72 = .ok (.iaload, 1) := by decide +kernel
theorem dX1_says_73 : decode cX1_says 73 = .ok (.invokevirtual 72, 3) := by decide +kernel
theorem dX1_says_76 : decode cX1_says 76 = .ok (.ifCond .ne 13, 3) := by decide +kernel
theorem dX1_says_79 : decode cX1_says 79 = .ok (.aload_n 0, 1) := by decide +kernel
theorem dX1_says_80 : decode cX1_says 80 = .ok (.getfield 7, 3) := by decide +kernel
theorem dX1_says_83 : decode cX1_says 83 = .ok (.iload 4, 2) := by decide +kernel
theorem dX1_says_85 : decode cX1_says 85 = .ok (.iaload, 1) := by decide +kernel
theorem dX1_says_86 : decode cX1_says 86 = .ok (.goto 4, 3) := by decide +kernel
theorem dX1_says_89 : decode cX1_says 89 = .ok (.iload_n 3, 1) := by decide +kernel
theorem dX1_says_90 : decode cX1_says 90 = .ok (.istore_n 3, 1) := by decide +kernel
theorem dX1_says_91 : decode cX1_says 91 = .ok (.iinc 4 1, 3) := by decide +kernel
theorem dX1_says_94 : decode cX1_says 94 = .ok (.goto (-84), 3) := by decide +kernel
theorem dX1_says_97 : decode cX1_says 97 = .ok (.iload_n 2, 1) := by decide +kernel
theorem dX1_says_98 : decode cX1_says 98 = .ok (.ifCond .ne 8, 3) := by decide +kernel
theorem dX1_says_101 : decode cX1_says 101 = .ok (.bipush 17, 2) := by decide +kernel
theorem dX1_says_103 : decode cX1_says 103 = .ok (.goto 13, 3) := by decide +kernel
theorem dX1_says_106 : decode cX1_says 106 = .ok (.iload_n 2, 1) := by decide +kernel
theorem dX1_says_107 : decode cX1_says 107 = .ok (.iconst 1, 1) := by decide +kernel
theorem dX1_says_108 : decode cX1_says 108 = .ok (.if_icmp .ne 7, 3) := by decide +kernel
theorem dX1_says_111 : decode cX1_says 111 = .ok (.iload_n 3, 1) := by decide +kernel
theorem dX1_says_112 : decode cX1_says 112 = .ok (.goto 4, 3) := by decide +kernel
theorem dX1_says_115 : decode cX1_says 115 = .ok (.iconst 0, 1) := by decide +kernel
theorem dX1_says_116 : decode cX1_says 116 = .ok (.ireturn, 1) := by decide +kernel
theorem dX1_follow_0 : decode cX1_follow 0 = .ok (.aload_n 0, 1) := by decide +kernel
theorem dX1_follow_1 : decode cX1_follow 1 = .ok (.invokevirtual 76, 3) := by decide +kernel
theorem dX1_follow_4 : decode cX1_follow 4 = .ok (.iconst 0, 1) := by decide +kernel
theorem dX1_follow_5 : decode cX1_follow 5 = .ok (.istore_n 1, 1) := by decide +kernel
theorem dX1_follow_6 : decode cX1_follow 6 = .ok (.iconst 1, 1) := by decide +kernel
theorem dX1_follow_7 : decode cX1_follow 7 = .ok (.istore_n 2, 1) := by decide +kernel
theorem dX1_follow_8 : decode cX1_follow 8 = .ok (.iload_n 2, 1) := by decide +kernel
theorem dX1_follow_9 : decode cX1_follow 9 = .ok (.ifCond .eq 70, 3) := by decide +kernel
theorem dX1_follow_12 : decode cX1_follow 12 = .ok (.iconst 0, 1) := by decide +kernel
theorem dX1_follow_13 : decode cX1_follow 13 = .ok (.istore_n 2, 1) := by decide +kernel
theorem dX1_follow_14 : decode cX1_follow 14 = .ok (.iconst 0, 1) := by decide +kernel
theorem dX1_follow_15 : decode cX1_follow 15 = .ok (.istore_n 3, 1) := by decide +kernel
theorem dX1_follow_16 : decode cX1_follow 16 = .ok (.iload_n 3, 1) := by decide +kernel
theorem dX1_follow_17 : decode cX1_follow 17 = .ok (.aload_n 0, 1) := by decide +kernel
theorem dX1_follow_18 : decode cX1_follow 18 = .ok (.getfield 44, 3) := by decide +kernel
theorem dX1_follow_21 : decode cX1_follow 21 = .ok (.if_icmp .ge 55, 3) := by decide +kernel
theorem dX1_follow_24 : decode cX1_follow 24 = .ok (.aload_n 0, 1) := by decide +kernel
theorem dX1_follow_25 : decode cX1_follow 25 = .ok (.getfield 13, 3) := by decide +kernel
theorem dX1_follow_28 : decode cX1_follow 28 = .ok (.iload_n 3, 1) := by decide +kernel
theorem dX1_follow_29 : decode cX1_follow 29 = .ok (.iaload, 1) := by decide +kernel
theorem dX1_follow_30 : decode cX1_follow 30 = .ok (.ifCond .ge 7, 3) := by decide +kernel
theorem dX1_follow_33 : decode cX1_follow 33 = .ok (.iconst 0, 1) := by decide +kernel
theorem dX1_follow_34 : decode cX1_follow 34 = .ok (.goto 8, 3) := by decide +kernel
theorem dX1_follow_37 : decode cX1_follow 37 = .ok (.aload_n 0, 1) := by decide +kernel
theorem dX1_follow_38 : decode cX1_follow 38 = .ok (.iload_n 3, 1) := by decide +kernel
theorem dX1_follow_39 : decode cX1_follow 39 = .ok (.invokevirtual 79, 3) := by decide +kernel
theorem dX1_follow_42 : decode cX1_follow 42 = .ok (.istore 4, 2) := by decide +kernel
theorem dX1_follow_44 : decode cX1_follow 44 = .ok (.iload 4, 2) := by decide +kernel
theorem dX1_follow_46 : decode cX1_follow 46 = .ok (.bipush 17, 2) := by decide +kernel
theorem dX1_follow_48 : decode cX1_follow 48 = .ok (.if_icmp .ne 6, 3) := by decide +kernel
theorem dX1_follow_51 : decode cX1_follow 51 = .ok (.bipush 17, 2) := by decide +kernel
theorem dX1_follow_53 : decode cX1_follow 53 = .ok (.ireturn, 1) := by decide +kernel
theorem dX1_follow_54 : decode cX1_follow 54 = .ok (.iload 4, 2) := by decide +kernel
theorem dX1_follow_56 : decode cX1_follow 56 = .ok (.ifCond .eq 14, 3) := by decide +kernel
theorem dX1_follow_59 : decode cX1_follow 59 = .ok (.aload_n 0, 1) := by decide +kernel
theorem dX1_follow_60 : decode cX1_follow 60 = .ok (.iload 4, 2) := by decide +kernel
theorem dX1_follow_62 : decode cX1_follow 62 = .ok (.invokevirtual 68, 3) := by decide +kernel
theorem dX1_follow_65 : decode cX1_follow 65 = .ok (.iinc 1 1, 3) := by decide +kernel
theorem dX1_follow_68 : decode cX1_follow 68 = .ok (.iconst 1, 1) := by decide +kernel
theorem dX1_follow_69 : decode cX1_follow 69 = .ok (.istore_n 2, 1) := by decide +kernel
theorem dX1_follow_70 : decode cX1_follow 70 = .ok (.iinc 3 1, 3) := by decide +kernel
theorem dX1_follow_73 : decode cX1_follow 73 = .ok (.goto (-57), 3) := by decide +kernel
theorem dX1_follow_76 : decode cX1_follow 76 = .ok (.goto (-68), 3) := by decide +kernel
theorem dX1_follow_79 : decode cX1_follow 79 = .ok (.iload_n 1, 1) := by decide +kernel
theorem dX1_follow_80 : decode cX1_follow 80 = .ok (.ireturn, 1) := by decide +kernel
theorem dX1_step_0 : decode cX1_step 0 = .ok (.aload_n 0, 1) := by decide +kernel
theorem dX1_step_1 : decode cX1_step 1 = .ok (.aload_n 0, 1) := by decide +kernel
theorem dX1_step_2 : decode cX1_step 2 = .ok (.getfield 44, 3) := by decide +kernel
theorem dX1_step_5 : decode cX1_step 5 = .ok (.sipush 600, 3) := by decide +kernel
theorem dX1_step_8 : decode cX1_step 8 = .ok (.if_icmp .ne 7, 3) := by decide +kernel
theorem dX1_step_11 : decode cX1_step 11 = .ok (.iconst 1, 1) := by decide +kernel
theorem dX1_step_12 : decode cX1_step 12 = .ok (.goto 4, 3) := by decide +kernel
theorem dX1_step_15 : decode cX1_step 15 = .ok (.iconst 0, 1) := by decide +kernel
theorem dX1_step_16 : decode cX1_step 16 = .ok (.putfield 34, 3) := by decide +kernel
theorem dX1_step_19 : decode cX1_step 19 = .ok (.aload_n 0, 1) := by decide +kernel
theorem dX1_step_20 : decode cX1_step 20 = .ok (.getfield 34, 3) := by decide +kernel
theorem dX1_step_23 : decode cX1_step 23 = .ok (.ifCond .le 5, 3) := by decide +kernel
theorem dX1_step_26 : decode cX1_step 26 = .ok (.iconst 0, 1) := by decide +kernel
theorem dX1_step_27 : decode cX1_step 27 = .ok (.ireturn, 1) := by decide +kernel
theorem dX1_step_28 : decode cX1_step 28 = .ok (.aload_n 0, 1) := by decide +kernel
theorem dX1_step_29 : decode cX1_step 29 = .ok (.invokevirtual 82, 3) := by decide +kernel
theorem dX1_step_32 : decode cX1_step 32 = .ok (.bipush 17, 2) := by decide +kernel
theorem dX1_step_34 : decode cX1_step 34 = .ok (.if_icmp .ne 10, 3) := by decide +kernel
theorem dX1_step_37 : decode cX1_step 37 = .ok (.aload_n 0, 1) := by decide +kernel
theorem dX1_step_38 : decode cX1_step 38 = .ok (.invokevirtual 85, 3) := by decide +kernel
theorem dX1_step_41 : decode cX1_step 41 = .ok (.goto 4, 3) := by decide +kernel
theorem dX1_step_44 : decode cX1_step 44 = .ok (.iconst (-1), 1) := by decide +kernel
theorem dX1_step_45 : decode cX1_step 45 = .ok (.ireturn, 1) := by decide +kernel
theorem dX1_along_0 : decode cX1_along 0 = .ok (.aload_n 0, 1) := by decide +kernel
theorem dX1_along_1 : decode cX1_along 1 = .ok (.aload_n 0, 1) := by decide +kernel
theorem dX1_along_2 : decode cX1_along 2 = .ok (.getfield 44, 3) := by decide +kernel
theorem dX1_along_5 : decode cX1_along 5 = .ok (.sipush 600, 3) := by decide +kernel
theorem dX1_along_8 : decode cX1_along 8 = .ok (.if_icmp .ne 7, 3) := by decide +kernel
theorem dX1_along_11 : decode cX1_along 11 = .ok (.iconst 1, 1) := by decide +kernel
theorem dX1_along_12 : decode cX1_along 12 = .ok (.goto 4, 3) := by decide +kernel
theorem dX1_along_15 : decode cX1_along 15 = .ok (.iconst 0, 1) := by decide +kernel
theorem dX1_along_16 : decode cX1_along 16 = .ok (.putfield 34, 3) := by decide +kernel
theorem dX1_along_19 : decode cX1_along 19 = .ok (.aload_n 0, 1) := by decide +kernel
theorem dX1_along_20 : decode cX1_along 20 = .ok (.getfield 34, 3) := by decide +kernel
theorem dX1_along_23 : decode cX1_along 23 = .ok (.ifCond .le 5, 3) := by decide +kernel
theorem dX1_along_26 : decode cX1_along 26 = .ok (.iconst 0, 1) := by decide +kernel
theorem dX1_along_27 : decode cX1_along 27 = .ok (.ireturn, 1) := by decide +kernel
theorem dX1_along_28 : decode cX1_along 28 = .ok (.aload_n 0, 1) := by decide +kernel
theorem dX1_along_29 : decode cX1_along 29 = .ok (.invokevirtual 76, 3) := by decide +kernel
theorem dX1_along_32 : decode cX1_along 32 = .ok (.iconst 0, 1) := by decide +kernel
theorem dX1_along_33 : decode cX1_along 33 = .ok (.istore_n 1, 1) := by decide +kernel
theorem dX1_along_34 : decode cX1_along 34 = .ok (.iload_n 1, 1) := by decide +kernel
theorem dX1_along_35 : decode cX1_along 35 = .ok (.aload_n 0, 1) := by decide +kernel
theorem dX1_along_36 : decode cX1_along 36 = .ok (.getfield 41, 3) := by decide +kernel
theorem dX1_along_39 : decode cX1_along 39 = .ok (.if_icmp .ge 82, 3) := by decide +kernel
theorem dX1_along_42 : decode cX1_along 42 = .ok (.aload_n 0, 1) := by decide +kernel
theorem dX1_along_43 : decode cX1_along 43 = .ok (.aload_n 0, 1) := by decide +kernel
theorem dX1_along_44 : decode cX1_along 44 = .ok (.getfield 19, 3) := by decide +kernel
theorem dX1_along_47 : decode cX1_along 47 = .ok (.iload_n 1, 1) := by decide +kernel
theorem dX1_along_48 : decode cX1_along 48 = .ok (.iaload, 1) := by decide +kernel
theorem dX1_along_49 : decode cX1_along 49 = .ok (.invokevirtual 88, 3) := by decide +kernel
theorem dX1_along_52 : decode cX1_along 52 = .ok (.ifCond .eq 16, 3) := by decide +kernel
theorem dX1_along_55 : decode cX1_along 55 = .ok (.aload_n 0, 1) := by decide +kernel
theorem dX1_along_56 : decode cX1_along 56 = .ok (.aload_n 0, 1) := by decide +kernel
theorem dX1_along_57 : decode cX1_along 57 = .ok (.getfield 19, 3) := by decide +kernel
theorem dX1_along_60 : decode cX1_along 60 = .ok (.iload_n 1, 1) := by decide +kernel
theorem dX1_along_61 : decode cX1_along 61 = .ok (.iaload, 1) := by decide +kernel
theorem dX1_along_62 : decode cX1_along 62 = .ok (.invokevirtual 79, 3) := by decide +kernel
theorem dX1_along_65 : decode cX1_along 65 = .ok (.goto 4, 3) := by decide +kernel
theorem dX1_along_68 : decode cX1_along 68 = .ok (.iconst 0, 1) := by decide +kernel
theorem dX1_along_69 : decode cX1_along 69 = .ok (.istore_n 2, 1) := by decide +kernel
theorem dX1_along_70 : decode cX1_along 70 = .ok (.iload_n 2, 1) := by decide +kernel
theorem dX1_along_71 : decode cX1_along 71 = .ok (.bipush 17, 2) := by decide +kernel
theorem dX1_along_73 : decode cX1_along 73 = .ok (.if_icmp .ne 23, 3) := by decide +kernel
theorem dX1_along_76 : decode cX1_along 76 = .ok (.iload_n 1, 1) := by decide +kernel
theorem dX1_along_77 : decode cX1_along 77 = .ok (.aload_n 0, 1) := by decide +kernel
theorem dX1_along_78 : decode cX1_along 78 = .ok (.getfield 41, 3) := by decide +kernel
theorem dX1_along_81 : decode cX1_along 81 = .ok (.iconst 1, 1) := by decide +kernel
theorem dX1_along_82 : decode cX1_along 82 = .ok (.isub, 1) := by decide +kernel
theorem dX1_along_83 : decode cX1_along 83 = .ok (.if_icmp .ne 13, 3) := by decide +kernel
theorem dX1_along_86 : decode cX1_along 86 = .ok (.aload_n 0, 1) := by decide +kernel
theorem dX1_along_87 : decode cX1_along 87 = .ok (.iconst 0, 1) := by decide +kernel
theorem dX1_along_88 : decode cX1_along 88 = .ok (.putfield 41, 3) := by decide +kernel
theorem dX1_along_91 : decode cX1_along 91 = .ok (.aload_n 0, 1) := by decide +kernel
theorem dX1_along_92 : decode cX1_along 92 = .ok (.invokevirtual 85, 3) := by decide +kernel
theorem dX1_along_95 : decode cX1_along 95 = .ok (.ireturn, 1) := by decide +kernel
theorem dX1_along_96 : decode cX1_along 96 = .ok (.iload_n 2, 1) := by decide +kernel
theorem dX1_along_97 : decode cX1_along 97 = .ok (.ifCond .eq 9, 3) := by decide +kernel
theorem dX1_along_100 : decode cX1_along 100 = .ok (.iload_n 2, 1) := by decide +kernel
theorem dX1_along_101 : decode cX1_along 101 = .ok (.bipush 17, 2) := by decide +kernel
theorem dX1_along_103 : decode cX1_along 103 = .ok (.if_icmp .ne 7, 3) := by decide +kernel
theorem dX1_along_106 : decode cX1_along 106 = .ok (.iconst (-1), 1) := by decide +kernel
theorem dX1_along_107 : decode cX1_along 107 = .ok (.iload_n 1, 1) := by decide +kernel
theorem dX1_along_108 : decode cX1_along 108 = .ok (.isub, 1) := by decide +kernel
theorem dX1_along_109 : decode cX1_along 109 = .ok (.ireturn, 1) := by decide +kernel
theorem dX1_along_110 : decode cX1_along 110 = .ok (.aload_n 0, 1) := by decide +kernel
theorem dX1_along_111 : decode cX1_along 111 = .ok (.iload_n 2, 1) := by decide +kernel
theorem dX1_along_112 : decode cX1_along 112 = .ok (.invokevirtual 68, 3) := by decide +kernel
theorem dX1_along_115 : decode cX1_along 115 = .ok (.iinc 1 1, 3) := by decide +kernel
theorem dX1_along_118 : decode cX1_along 118 = .ok (.goto (-84), 3) := by decide +kernel
theorem dX1_along_121 : decode cX1_along 121 = .ok (.iconst (-1), 1) := by decide +kernel
theorem dX1_along_122 : decode cX1_along 122 = .ok (.aload_n 0, 1) := by decide +kernel
theorem dX1_along_123 : decode cX1_along 123 = .ok (.getfield 41, 3) := by decide +kernel
theorem dX1_along_126 : decode cX1_along 126 = .ok (.isub, 1) := by decide +kernel
theorem dX1_along_127 : decode cX1_along 127 = .ok (.ireturn, 1) := by decide +kernel
theorem dX1_drop_0 : decode cX1_drop 0 = .ok (.aload_n 0, 1) := by decide +kernel
theorem dX1_drop_1 : decode cX1_drop 1 = .ok (.aload_n 0, 1) := by decide +kernel
theorem dX1_drop_2 : decode cX1_drop 2 = .ok (.iload_n 1, 1) := by decide +kernel
theorem dX1_drop_3 : decode cX1_drop 3 = .ok (.invokevirtual 88, 3) := by decide +kernel
theorem dX1_drop_6 : decode cX1_drop 6 = .ok (.ifCond .eq 7, 3) := by decide +kernel
theorem dX1_drop_9 : decode cX1_drop 9 = .ok (.iconst 0, 1) := by decide +kernel
theorem dX1_drop_10 : decode cX1_drop 10 = .ok (.goto 4, 3) := by decide +kernel
theorem dX1_drop_13 : decode cX1_drop 13 = .ok (.iconst 1, 1) := by decide +kernel
theorem dX1_drop_14 : decode cX1_drop 14 = .ok (.putfield 34, 3) := by decide +kernel
theorem dX1_drop_17 : decode cX1_drop 17 = .ok (.aload_n 0, 1) := by decide +kernel
theorem dX1_drop_18 : decode cX1_drop 18 = .ok (.getfield 34, 3) := by decide +kernel
theorem dX1_drop_21 : decode cX1_drop 21 = .ok (.ifCond .le 5, 3) := by decide +kernel
theorem dX1_drop_24 : decode cX1_drop 24 = .ok (.iconst 0, 1) := by decide +kernel
theorem dX1_drop_25 : decode cX1_drop 25 = .ok (.ireturn, 1) := by decide +kernel
theorem dX1_drop_26 : decode cX1_drop 26 = .ok (.aload_n 0, 1) := by decide +kernel
theorem dX1_drop_27 : decode cX1_drop 27 = .ok (.getfield 13, 3) := by decide +kernel
theorem dX1_drop_30 : decode cX1_drop 30 = .ok (.iload_n 1, 1) := by decide +kernel
theorem dX1_drop_31 : decode cX1_drop 31 = .ok (.iaload, 1) := by decide +kernel
theorem dX1_drop_32 : decode cX1_drop 32 = .ok (.istore_n 2, 1) := by decide +kernel
theorem dX1_drop_33 : decode cX1_drop 33 = .ok (.aload_n 0, 1) := by decide +kernel
theorem dX1_drop_34 : decode cX1_drop 34 = .ok (.getfield 13, 3) := by decide +kernel
theorem dX1_drop_37 : decode cX1_drop 37 = .ok (.iload_n 1, 1) := by decide +kernel
theorem dX1_drop_38 : decode cX1_drop 38 = .ok (.iconst (-1), 1) := by decide +kernel
theorem dX1_drop_39 : decode cX1_drop 39 = .ok (.iastore, 1) := by decide +kernel
theorem dX1_drop_40 : decode cX1_drop 40 = .ok (.aload_n 0, 1) := by decide +kernel
theorem dX1_drop_41 : decode cX1_drop 41 = .ok (.dup, 1) := by decide +kernel
theorem dX1_drop_42 : decode cX1_drop 42 = .ok (.getfield 47, 3) := by decide +kernel
theorem dX1_drop_45 : decode cX1_drop 45 = .ok (.iconst 1, 1) := by decide +kernel
theorem dX1_drop_46 : decode cX1_drop 46 = .ok (.isub, 1) := by decide +kernel
theorem dX1_drop_47 : decode cX1_drop 47 = .ok (.putfield 47, 3) := by decide +kernel
theorem dX1_drop_50 : decode cX1_drop 50 = .ok (.iload_n 2, 1) := by decide +kernel
theorem dX1_drop_51 : decode cX1_drop 51 = .ok (.ireturn, 1) := by decide +kernel
theorem dX1_at_0 : decode cX1_at 0 = .ok (.aload_n 0, 1) := by decide +kernel
theorem dX1_at_1 : decode cX1_at 1 = .ok (.aload_n 0, 1) := by decide +kernel
theorem dX1_at_2 : decode cX1_at 2 = .ok (.iload_n 1, 1) := by decide +kernel
theorem dX1_at_3 : decode cX1_at 3 = .ok (.invokevirtual 88, 3) := by decide +kernel
theorem dX1_at_6 : decode cX1_at 6 = .ok (.ifCond .eq 11, 3) := by decide +kernel
theorem dX1_at_9 : decode cX1_at 9 = .ok (.iload_n 2, 1) := by decide +kernel
theorem dX1_at_10 : decode cX1_at 10 = .ok (.ifCond .lt 7, 3) := by decide +kernel
theorem dX1_at_13 : decode cX1_at 13 = .ok (.iconst 0, 1) := by decide +kernel
theorem dX1_at_14 : decode cX1_at 14 = .ok (.goto 4, 3) := by decide +kernel
theorem dX1_at_17 : decode cX1_at 17 = .ok (.iconst 1, 1) := by decide +kernel
theorem dX1_at_18 : decode cX1_at 18 = .ok (.putfield 34, 3) := by decide +kernel
theorem dX1_at_21 : decode cX1_at 21 = .ok (.aload_n 0, 1) := by decide +kernel
theorem dX1_at_22 : decode cX1_at 22 = .ok (.getfield 34, 3) := by decide +kernel
theorem dX1_at_25 : decode cX1_at 25 = .ok (.ifCond .gt 13, 3) := by decide +kernel
theorem dX1_at_28 : decode cX1_at 28 = .ok (.iload_n 2, 1) := by decide +kernel
theorem dX1_at_29 : decode cX1_at 29 = .ok (.aload_n 0, 1) := by decide +kernel
theorem dX1_at_30 : decode cX1_at 30 = .ok (.getfield 13, 3) := by decide +kernel
theorem dX1_at_33 : decode cX1_at 33 = .ok (.iload_n 1, 1) := by decide +kernel
theorem dX1_at_34 : decode cX1_at 34 = .ok (.iaload, 1) := by decide +kernel
theorem dX1_at_35 : decode cX1_at 35 = .ok (.if_icmp .lt 7, 3) := by decide +kernel
theorem dX1_at_38 : decode cX1_at 38 = .ok (.iconst 0, 1) := by decide +kernel
theorem dX1_at_39 : decode cX1_at 39 = .ok (.goto 14, 3) := by decide +kernel
theorem dX1_at_42 : decode cX1_at 42 = .ok (.aload_n 0, 1) := by decide +kernel
theorem dX1_at_43 : decode cX1_at 43 = .ok (.getfield 7, 3) := by decide +kernel
theorem dX1_at_46 : decode cX1_at 46 = .ok (.bipush 16, 2) := by decide +kernel
theorem dX1_at_48 : decode cX1_at 48 = .ok (.iload_n 1, 1) := by decide +kernel
theorem dX1_at_49 : decode cX1_at 49 = .ok (.imul, 1) := by decide +kernel
theorem dX1_at_50 : decode cX1_at 50 = .ok (.iload_n 2, 1) := by decide +kernel
theorem dX1_at_51 : decode cX1_at 51 = .ok (.iadd, 1) := by decide +kernel
theorem dX1_at_52 : decode cX1_at 52 = .ok (.iaload, 1) := by decide +kernel
theorem dX1_at_53 : decode cX1_at 53 = .ok (.ireturn, 1) := by decide +kernel
theorem dX1_told_0 : decode cX1_told 0 = .ok (.aload_n 0, 1) := by decide +kernel
theorem dX1_told_1 : decode cX1_told 1 = .ok (.iconst 0, 1) := by decide +kernel
theorem dX1_told_2 : decode cX1_told 2 = .ok (.putfield 34, 3) := by decide +kernel
theorem dX1_told_5 : decode cX1_told 5 = .ok (.aload_n 0, 1) := by decide +kernel
theorem dX1_told_6 : decode cX1_told 6 = .ok (.invokevirtual 82, 3) := by decide +kernel
theorem dX1_told_9 : decode cX1_told 9 = .ok (.ireturn, 1) := by decide +kernel
theorem dX1_isOver_0 : decode cX1_isOver 0 = .ok (.aload_n 0, 1) := by decide +kernel
theorem dX1_isOver_1 : decode cX1_isOver 1 = .ok (.iconst 0, 1) := by decide +kernel
theorem dX1_isOver_2 : decode cX1_isOver 2 = .ok (.putfield 34, 3) := by decide +kernel
theorem dX1_isOver_5 : decode cX1_isOver 5 = .ok (.iconst 0, 1) := by decide +kernel
theorem dX1_isOver_6 : decode cX1_isOver 6 = .ok (.istore_n 1, 1) := by decide +kernel
theorem dX1_isOver_7 : decode cX1_isOver 7 = .ok (.iconst 0, 1) := by decide +kernel
theorem dX1_isOver_8 : decode cX1_isOver 8 = .ok (.istore_n 2, 1) := by decide +kernel
theorem dX1_isOver_9 : decode cX1_isOver 9 = .ok (.iload_n 2, 1) := by decide +kernel
theorem dX1_isOver_10 : decode cX1_isOver 10 = .ok (.aload_n 0, 1) := by decide +kernel
theorem dX1_isOver_11 : decode cX1_isOver 11 = .ok (.getfield 44, 3) := by decide +kernel
theorem dX1_isOver_14 : decode cX1_isOver 14 = .ok (.if_icmp .ge 28, 3) := by decide +kernel
theorem dX1_isOver_17 : decode cX1_isOver 17 = .ok (.iload_n 1, 1) := by decide +kernel
theorem dX1_isOver_18 : decode cX1_isOver 18 = .ok (.ifCond .ne 12, 3) := by decide +kernel
theorem dX1_isOver_21 : decode cX1_isOver 21 = .ok (.aload_n 0, 1) := by decide +kernel
theorem dX1_isOver_22 : decode cX1_isOver 22 = .ok (.getfield 13, 3) := by decide +kernel
theorem dX1_isOver_25 : decode cX1_isOver 25 = .ok (.iload_n 2, 1) := by decide +kernel
theorem dX1_isOver_26 : decode cX1_isOver 26 = .ok (.iaload, 1) := by decide +kernel
theorem dX1_isOver_27 : decode cX1_isOver 27 = .ok (.ifCond .ne 7, 3) := by decide +kernel
theorem dX1_isOver_30 : decode cX1_isOver 30 = .ok (.iconst 1, 1) := by decide +kernel
theorem dX1_isOver_31 : decode cX1_isOver 31 = .ok (.goto 4, 3) := by decide +kernel
theorem dX1_isOver_34 : decode cX1_isOver 34 = .ok (.iconst 0, 1) := by decide +kernel
theorem dX1_isOver_35 : decode cX1_isOver 35 = .ok (.istore_n 1, 1) := by decide +kernel
theorem dX1_isOver_36 : decode cX1_isOver 36 = .ok (.iinc 2 1, 3) := by decide +kernel
theorem dX1_isOver_39 : decode cX1_isOver 39 = .ok (.goto (-30), 3) := by decide +kernel
theorem dX1_isOver_42 : decode cX1_isOver 42 = .ok (.iload_n 1, 1) := by decide +kernel
theorem dX1_isOver_43 : decode cX1_isOver 43 = .ok (.ireturn, 1) := by decide +kernel
theorem dX1_wrong_0 : decode cX1_wrong 0 = .ok (.aload_n 0, 1) := by decide +kernel
theorem dX1_wrong_1 : decode cX1_wrong 1 = .ok (.iconst 0, 1) := by decide +kernel
theorem dX1_wrong_2 : decode cX1_wrong 2 = .ok (.putfield 34, 3) := by decide +kernel
theorem dX1_wrong_5 : decode cX1_wrong 5 = .ok (.aload_n 0, 1) := by decide +kernel
theorem dX1_wrong_6 : decode cX1_wrong 6 = .ok (.getfield 62, 3) := by decide +kernel
theorem dX1_wrong_9 : decode cX1_wrong 9 = .ok (.ireturn, 1) := by decide +kernel
theorem dX1_count_0 : decode cX1_count 0 = .ok (.aload_n 0, 1) := by decide +kernel
theorem dX1_count_1 : decode cX1_count 1 = .ok (.iload_n 1, 1) := by decide +kernel
theorem dX1_count_2 : decode cX1_count 2 = .ok (.ifCond .lt 12, 3) := by decide +kernel
theorem dX1_count_5 : decode cX1_count 5 = .ok (.iload_n 1, 1) := by decide +kernel
theorem dX1_count_6 : decode cX1_count 6 = .ok (.iconst 4, 1) := by decide +kernel
theorem dX1_count_7 : decode cX1_count 7 = .ok (.if_icmp .gt 7, 3) := by decide +kernel
theorem dX1_count_10 : decode cX1_count 10 = .ok (.iconst 0, 1) := by decide +kernel
theorem dX1_count_11 : decode cX1_count 11 = .ok (.goto 4, 3) := by decide +kernel
theorem dX1_count_14 : decode cX1_count 14 = .ok (.iconst 1, 1) := by decide +kernel
theorem dX1_count_15 : decode cX1_count 15 = .ok (.putfield 34, 3) := by decide +kernel
theorem dX1_count_18 : decode cX1_count 18 = .ok (.aload_n 0, 1) := by decide +kernel
theorem dX1_count_19 : decode cX1_count 19 = .ok (.getfield 34, 3) := by decide +kernel
theorem dX1_count_22 : decode cX1_count 22 = .ok (.ifCond .le 7, 3) := by decide +kernel
theorem dX1_count_25 : decode cX1_count 25 = .ok (.iconst 0, 1) := by decide +kernel
theorem dX1_count_26 : decode cX1_count 26 = .ok (.goto 54, 3) := by decide +kernel
theorem dX1_count_29 : decode cX1_count 29 = .ok (.iload_n 1, 1) := by decide +kernel
theorem dX1_count_30 : decode cX1_count 30 = .ok (.ifCond .ne 10, 3) := by decide +kernel
theorem dX1_count_33 : decode cX1_count 33 = .ok (.aload_n 0, 1) := by decide +kernel
theorem dX1_count_34 : decode cX1_count 34 = .ok (.getfield 44, 3) := by decide +kernel
theorem dX1_count_37 : decode cX1_count 37 = .ok (.goto 43, 3) := by decide +kernel
theorem dX1_count_40 : decode cX1_count 40 = .ok (.iload_n 1, 1) := by decide +kernel
theorem dX1_count_41 : decode cX1_count 41 = .ok (.iconst 1, 1) := by decide +kernel
theorem dX1_count_42 : decode cX1_count 42 = .ok (.if_icmp .ne 10, 3) := by decide +kernel
theorem dX1_count_45 : decode cX1_count 45 = .ok (.aload_n 0, 1) := by decide +kernel
theorem dX1_count_46 : decode cX1_count 46 = .ok (.getfield 47, 3) := by decide +kernel
theorem dX1_count_49 : decode cX1_count 49 = .ok (.goto 31, 3) := by decide +kernel
theorem dX1_count_52 : decode cX1_count 52 = .ok (.iload_n 1, 1) := by decide +kernel
theorem dX1_count_53 : decode cX1_count 53 = .ok (.iconst 2, 1) := by decide +kernel
theorem dX1_count_54 : decode cX1_count 54 = .ok (.if_icmp .ne 10, 3) := by decide +kernel
theorem dX1_count_57 : decode cX1_count 57 = .ok (.aload_n 0, 1) := by decide +kernel
theorem dX1_count_58 : decode cX1_count 58 = .ok (.getfield 65, 3) := by decide +kernel
theorem dX1_count_61 : decode cX1_count 61 = .ok (.goto 19, 3) := by decide +kernel
theorem dX1_count_64 : decode cX1_count 64 = .ok (.iload_n 1, 1) := by decide +kernel
theorem dX1_count_65 : decode cX1_count 65 = .ok (.iconst 3, 1) := by decide +kernel
theorem dX1_count_66 : decode cX1_count 66 = .ok (.if_icmp .ne 10, 3) := by decide +kernel
theorem dX1_count_69 : decode cX1_count 69 = .ok (.aload_n 0, 1) := by decide +kernel
theorem dX1_count_70 : decode cX1_count 70 = .ok (.getfield 38, 3) := by decide +kernel
theorem dX1_count_73 : decode cX1_count 73 = .ok (.goto 7, 3) := by decide +kernel
theorem dX1_count_76 : decode cX1_count 76 = .ok (.aload_n 0, 1) := by decide +kernel
theorem dX1_count_77 : decode cX1_count 77 = .ok (.getfield 41, 3) := by decide +kernel
theorem dX1_count_80 : decode cX1_count 80 = .ok (.ireturn, 1) := by decide +kernel
