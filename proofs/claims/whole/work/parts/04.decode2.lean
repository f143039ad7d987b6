theorem d_P_init_0 : decode b_P_init 0 = .ok (.aload_n 0, 1) := by decide +kernel
theorem d_P_init_1 : decode b_P_init 1 = .ok (.invokespecial 1, 3) := by decide +kernel
theorem d_P_init_4 : decode b_P_init 4 = .ok (.aload_n 0, 1) := by decide +kernel
theorem d_P_init_5 : decode b_P_init 5 = .ok (.new 7, 3) := by decide +kernel
theorem d_P_init_8 : decode b_P_init 8 = .ok (.dup, 1) := by decide +kernel
theorem d_P_init_9 : decode b_P_init 9 = .ok (.iconst 1, 1) := by decide +kernel
theorem d_P_init_10 : decode b_P_init 10 = .ok (.invokespecial 9, 3) := by decide +kernel
theorem d_P_init_13 : decode b_P_init 13 = .ok (.putfield 12, 3) := by decide +kernel
theorem d_P_init_16 : decode b_P_init 16 = .ok (.aload_n 0, 1) := by decide +kernel
theorem d_P_init_17 : decode b_P_init 17 = .ok (.new 7, 3) := by decide +kernel
theorem d_P_init_20 : decode b_P_init 20 = .ok (.dup, 1) := by decide +kernel
theorem d_P_init_21 : decode b_P_init 21 = .ok (.iconst 1, 1) := by decide +kernel
theorem d_P_init_22 : decode b_P_init 22 = .ok (.invokespecial 9, 3) := by decide +kernel
theorem d_P_init_25 : decode b_P_init 25 = .ok (.putfield 18, 3) := by decide +kernel
theorem d_P_init_28 : decode b_P_init 28 = .ok (.aload_n 0, 1) := by decide +kernel
theorem d_P_init_29 : decode b_P_init 29 = .ok (.new 21, 3) := by decide +kernel
theorem d_P_init_32 : decode b_P_init 32 = .ok (.dup, 1) := by decide +kernel
theorem d_P_init_33 : decode b_P_init 33 = .ok (.invokespecial 23, 3) := by decide +kernel
theorem d_P_init_36 : decode b_P_init 36 = .ok (.putfield 24, 3) := by decide +kernel
theorem d_P_init_39 : decode b_P_init 39 = .ok (.aload_n 0, 1) := by decide +kernel
theorem d_P_init_40 : decode b_P_init 40 = .ok (.new 28, 3) := by decide +kernel
theorem d_P_init_43 : decode b_P_init 43 = .ok (.dup, 1) := by decide +kernel
theorem d_P_init_44 : decode b_P_init 44 = .ok (.invokespecial 30, 3) := by decide +kernel
theorem d_P_init_47 : decode b_P_init 47 = .ok (.putfield 31, 3) := by decide +kernel
theorem d_P_init_50 : decode b_P_init 50 = .ok (.aload_n 0, 1) := by decide +kernel
theorem d_P_init_51 : decode b_P_init 51 = .ok (.iconst 1, 1) := by decide +kernel
theorem d_P_init_52 : decode b_P_init 52 = .ok (.putfield 35, 3) := by decide +kernel
theorem d_P_init_55 : decode b_P_init 55 = .ok (.aload_n 0, 1) := by decide +kernel
theorem d_P_init_56 : decode b_P_init 56 = .ok (.iconst 1, 1) := by decide +kernel
theorem d_P_init_57 : decode b_P_init 57 = .ok (.putfield 39, 3) := by decide +kernel
theorem d_P_init_60 : decode b_P_init 60 = .ok (.return_, 1) := by decide +kernel
theorem d_P_hasRegister_0 : decode b_P_hasRegister 0 = .ok (.iload_n 0, 1) := by decide +kernel
theorem d_P_hasRegister_1 : decode b_P_hasRegister 1 = .ok (.ifCond .lt 13, 3) := by decide +kernel
theorem d_P_hasRegister_4 : decode b_P_hasRegister 4 = .ok (.iload_n 0, 1) := by decide +kernel
theorem d_P_hasRegister_5 : decode b_P_hasRegister 5 = .ok (.bipush 7, 2) := by decide +kernel
theorem d_P_hasRegister_7 : decode b_P_hasRegister 7 = .ok (.if_icmp .gt 7, 3) := by decide +kernel
theorem d_P_hasRegister_10 : decode b_P_hasRegister 10 = .ok (.iconst 1, 1) := by decide +kernel
theorem d_P_hasRegister_11 : decode b_P_hasRegister 11 = .ok (.goto 4, 3) := by decide +kernel
theorem d_P_hasRegister_14 : decode b_P_hasRegister 14 = .ok (.iconst 0, 1) := by decide +kernel
theorem d_P_hasRegister_15 : decode b_P_hasRegister 15 = .ok (.ireturn, 1) := by decide +kernel
theorem d_P_load_0 : decode b_P_load 0 = .ok (.iload_n 1, 1) := by decide +kernel
theorem d_P_load_1 : decode b_P_load 1 = .ok (.tableswitch 112 0 6 #[43, 62, 81, 86, 91, 99, 104], 43) := by decide +kernel
theorem d_P_load_44 : decode b_P_load 44 = .ok (.aload_n 0, 1) := by decide +kernel
theorem d_P_load_45 : decode b_P_load 45 = .ok (.invokevirtual 42, 3) := by decide +kernel
theorem d_P_load_48 : decode b_P_load 48 = .ok (.ifCond .eq 10, 3) := by decide +kernel
theorem d_P_load_51 : decode b_P_load 51 = .ok (.aload_n 0, 1) := by decide +kernel
theorem d_P_load_52 : decode b_P_load 52 = .ok (.getfield 39, 3) := by decide +kernel
theorem d_P_load_55 : decode b_P_load 55 = .ok (.goto 7, 3) := by decide +kernel
theorem d_P_load_58 : decode b_P_load 58 = .ok (.aload_n 0, 1) := by decide +kernel
theorem d_P_load_59 : decode b_P_load 59 = .ok (.invokevirtual 46, 3) := by decide +kernel
theorem d_P_load_62 : decode b_P_load 62 = .ok (.ireturn, 1) := by decide +kernel
theorem d_P_load_63 : decode b_P_load 63 = .ok (.aload_n 0, 1) := by decide +kernel
theorem d_P_load_64 : decode b_P_load 64 = .ok (.invokevirtual 42, 3) := by decide +kernel
theorem d_P_load_67 : decode b_P_load 67 = .ok (.ifCond .eq 10, 3) := by decide +kernel
theorem d_P_load_70 : decode b_P_load 70 = .ok (.aload_n 0, 1) := by decide +kernel
theorem d_P_load_71 : decode b_P_load 71 = .ok (.getfield 50, 3) := by decide +kernel
theorem d_P_load_74 : decode b_P_load 74 = .ok (.goto 7, 3) := by decide +kernel
theorem d_P_load_77 : decode b_P_load 77 = .ok (.aload_n 0, 1) := by decide +kernel
theorem d_P_load_78 : decode b_P_load 78 = .ok (.getfield 53, 3) := by decide +kernel
theorem d_P_load_81 : decode b_P_load 81 = .ok (.ireturn, 1) := by decide +kernel
theorem d_P_load_82 : decode b_P_load 82 = .ok (.aload_n 0, 1) := by decide +kernel
theorem d_P_load_83 : decode b_P_load 83 = .ok (.invokevirtual 56, 3) := by decide +kernel
theorem d_P_load_86 : decode b_P_load 86 = .ok (.ireturn, 1) := by decide +kernel
theorem d_P_load_87 : decode b_P_load 87 = .ok (.aload_n 0, 1) := by decide +kernel
theorem d_P_load_88 : decode b_P_load 88 = .ok (.getfield 59, 3) := by decide +kernel
theorem d_P_load_91 : decode b_P_load 91 = .ok (.ireturn, 1) := by decide +kernel
theorem d_P_load_92 : decode b_P_load 92 = .ok (.aload_n 0, 1) := by decide +kernel
theorem d_P_load_93 : decode b_P_load 93 = .ok (.getfield 24, 3) := by decide +kernel
theorem d_P_load_96 : decode b_P_load 96 = .ok (.getfield 62, 3) := by decide +kernel
theorem d_P_load_99 : decode b_P_load 99 = .ok (.ireturn, 1) := by decide +kernel
theorem d_P_load_100 : decode b_P_load 100 = .ok (.aload_n 0, 1) := by decide +kernel
theorem d_P_load_101 : decode b_P_load 101 = .ok (.invokevirtual 65, 3) := by decide +kernel
theorem d_P_load_104 : decode b_P_load 104 = .ok (.ireturn, 1) := by decide +kernel
theorem d_P_load_105 : decode b_P_load 105 = .ok (.aload_n 0, 1) := by decide +kernel
theorem d_P_load_106 : decode b_P_load 106 = .ok (.getfield 24, 3) := by decide +kernel
theorem d_P_load_109 : decode b_P_load 109 = .ok (.invokevirtual 68, 3) := by decide +kernel
theorem d_P_load_112 : decode b_P_load 112 = .ok (.ireturn, 1) := by decide +kernel
theorem d_P_load_113 : decode b_P_load 113 = .ok (.aload_n 0, 1) := by decide +kernel
theorem d_P_load_114 : decode b_P_load 114 = .ok (.getfield 71, 3) := by decide +kernel
theorem d_P_load_117 : decode b_P_load 117 = .ok (.ireturn, 1) := by decide +kernel
theorem d_P_store_0 : decode b_P_store 0 = .ok (.iload_n 2, 1) := by decide +kernel
theorem d_P_store_1 : decode b_P_store 1 = .ok (.sipush 255, 3) := by decide +kernel
theorem d_P_store_4 : decode b_P_store 4 = .ok (.iand, 1) := by decide +kernel
theorem d_P_store_5 : decode b_P_store 5 = .ok (.istore_n 3, 1) := by decide +kernel
theorem d_P_store_6 : decode b_P_store 6 = .ok (.iload_n 1, 1) := by decide +kernel
theorem d_P_store_7 : decode b_P_store 7 = .ok (.tableswitch 129 0 7 #[45, 68, 91, 99, 107, 129, 129, 121], 45) := by decide +kernel
theorem d_P_store_52 : decode b_P_store 52 = .ok (.aload_n 0, 1) := by decide +kernel
theorem d_P_store_53 : decode b_P_store 53 = .ok (.invokevirtual 42, 3) := by decide +kernel
theorem d_P_store_56 : decode b_P_store 56 = .ok (.ifCond .eq 11, 3) := by decide +kernel
theorem d_P_store_59 : decode b_P_store 59 = .ok (.aload_n 0, 1) := by decide +kernel
theorem d_P_store_60 : decode b_P_store 60 = .ok (.iload_n 3, 1) := by decide +kernel
theorem d_P_store_61 : decode b_P_store 61 = .ok (.putfield 39, 3) := by decide +kernel
theorem d_P_store_64 : decode b_P_store 64 = .ok (.goto 72, 3) := by decide +kernel
theorem d_P_store_67 : decode b_P_store 67 = .ok (.aload_n 0, 1) := by decide +kernel
theorem d_P_store_68 : decode b_P_store 68 = .ok (.iload_n 3, 1) := by decide +kernel
theorem d_P_store_69 : decode b_P_store 69 = .ok (.invokevirtual 74, 3) := by decide +kernel
theorem d_P_store_72 : decode b_P_store 72 = .ok (.goto 64, 3) := by decide +kernel
theorem d_P_store_75 : decode b_P_store 75 = .ok (.aload_n 0, 1) := by decide +kernel
theorem d_P_store_76 : decode b_P_store 76 = .ok (.invokevirtual 42, 3) := by decide +kernel
theorem d_P_store_79 : decode b_P_store 79 = .ok (.ifCond .eq 11, 3) := by decide +kernel
theorem d_P_store_82 : decode b_P_store 82 = .ok (.aload_n 0, 1) := by decide +kernel
theorem d_P_store_83 : decode b_P_store 83 = .ok (.iload_n 3, 1) := by decide +kernel
theorem d_P_store_84 : decode b_P_store 84 = .ok (.putfield 50, 3) := by decide +kernel
theorem d_P_store_87 : decode b_P_store 87 = .ok (.goto 49, 3) := by decide +kernel
theorem d_P_store_90 : decode b_P_store 90 = .ok (.aload_n 0, 1) := by decide +kernel
theorem d_P_store_91 : decode b_P_store 91 = .ok (.iload_n 3, 1) := by decide +kernel
theorem d_P_store_92 : decode b_P_store 92 = .ok (.invokevirtual 77, 3) := by decide +kernel
theorem d_P_store_95 : decode b_P_store 95 = .ok (.goto 41, 3) := by decide +kernel
theorem d_P_store_98 : decode b_P_store 98 = .ok (.aload_n 0, 1) := by decide +kernel
theorem d_P_store_99 : decode b_P_store 99 = .ok (.iload_n 3, 1) := by decide +kernel
theorem d_P_store_100 : decode b_P_store 100 = .ok (.invokevirtual 80, 3) := by decide +kernel
theorem d_P_store_103 : decode b_P_store 103 = .ok (.goto 33, 3) := by decide +kernel
theorem d_P_store_106 : decode b_P_store 106 = .ok (.aload_n 0, 1) := by decide +kernel
theorem d_P_store_107 : decode b_P_store 107 = .ok (.iload_n 3, 1) := by decide +kernel
theorem d_P_store_108 : decode b_P_store 108 = .ok (.putfield 59, 3) := by decide +kernel
theorem d_P_store_111 : decode b_P_store 111 = .ok (.goto 25, 3) := by decide +kernel
theorem d_P_store_114 : decode b_P_store 114 = .ok (.aload_n 0, 1) := by decide +kernel
theorem d_P_store_115 : decode b_P_store 115 = .ok (.getfield 24, 3) := by decide +kernel
theorem d_P_store_118 : decode b_P_store 118 = .ok (.iload_n 3, 1) := by decide +kernel
theorem d_P_store_119 : decode b_P_store 119 = .ok (.bipush 31, 2) := by decide +kernel
theorem d_P_store_121 : decode b_P_store 121 = .ok (.iand, 1) := by decide +kernel
theorem d_P_store_122 : decode b_P_store 122 = .ok (.invokevirtual 83, 3) := by decide +kernel
theorem d_P_store_125 : decode b_P_store 125 = .ok (.goto 11, 3) := by decide +kernel
theorem d_P_store_128 : decode b_P_store 128 = .ok (.aload_n 0, 1) := by decide +kernel
theorem d_P_store_129 : decode b_P_store 129 = .ok (.iload_n 3, 1) := by decide +kernel
theorem d_P_store_130 : decode b_P_store 130 = .ok (.putfield 71, 3) := by decide +kernel
theorem d_P_store_133 : decode b_P_store 133 = .ok (.goto 3, 3) := by decide +kernel
theorem d_P_store_136 : decode b_P_store 136 = .ok (.return_, 1) := by decide +kernel
theorem d_P_usesOtherBank_0 : decode b_P_usesOtherBank 0 = .ok (.aload_n 0, 1) := by decide +kernel
theorem d_P_usesOtherBank_1 : decode b_P_usesOtherBank 1 = .ok (.getfield 59, 3) := by decide +kernel
theorem d_P_usesOtherBank_4 : decode b_P_usesOtherBank 4 = .ok (.sipush 128, 3) := by decide +kernel
theorem d_P_usesOtherBank_7 : decode b_P_usesOtherBank 7 = .ok (.iand, 1) := by decide +kernel
theorem d_P_usesOtherBank_8 : decode b_P_usesOtherBank 8 = .ok (.ifCond .eq 7, 3) := by decide +kernel
theorem d_P_usesOtherBank_11 : decode b_P_usesOtherBank 11 = .ok (.iconst 1, 1) := by decide +kernel
theorem d_P_usesOtherBank_12 : decode b_P_usesOtherBank 12 = .ok (.goto 4, 3) := by decide +kernel
theorem d_P_usesOtherBank_15 : decode b_P_usesOtherBank 15 = .ok (.iconst 0, 1) := by decide +kernel
theorem d_P_usesOtherBank_16 : decode b_P_usesOtherBank 16 = .ok (.ireturn, 1) := by decide +kernel
theorem d_P_span_0 : decode b_P_span 0 = .ok (.aload_n 0, 1) := by decide +kernel
theorem d_P_span_1 : decode b_P_span 1 = .ok (.getfield 39, 3) := by decide +kernel
theorem d_P_span_4 : decode b_P_span 4 = .ok (.sipush 256, 3) := by decide +kernel
theorem d_P_span_7 : decode b_P_span 7 = .ok (.aload_n 0, 1) := by decide +kernel
theorem d_P_span_8 : decode b_P_span 8 = .ok (.getfield 50, 3) := by decide +kernel
theorem d_P_span_11 : decode b_P_span 11 = .ok (.imul, 1) := by decide +kernel
theorem d_P_span_12 : decode b_P_span 12 = .ok (.iadd, 1) := by decide +kernel
theorem d_P_span_13 : decode b_P_span 13 = .ok (.istore_n 1, 1) := by decide +kernel
theorem d_P_span_14 : decode b_P_span 14 = .ok (.iload_n 1, 1) := by decide +kernel
theorem d_P_span_15 : decode b_P_span 15 = .ok (.ifCond .ne 7, 3) := by decide +kernel
theorem d_P_span_18 : decode b_P_span 18 = .ok (.iconst 1, 1) := by decide +kernel
theorem d_P_span_19 : decode b_P_span 19 = .ok (.goto 4, 3) := by decide +kernel
theorem d_P_span_22 : decode b_P_span 22 = .ok (.iload_n 1, 1) := by decide +kernel
theorem d_P_span_23 : decode b_P_span 23 = .ok (.ireturn, 1) := by decide +kernel
theorem d_P_findCause_0 : decode b_P_findCause 0 = .ok (.aload_n 0, 1) := by decide +kernel
theorem d_P_findCause_1 : decode b_P_findCause 1 = .ok (.getfield 53, 3) := by decide +kernel
theorem d_P_findCause_4 : decode b_P_findCause 4 = .ok (.iconst 4, 1) := by decide +kernel
theorem d_P_findCause_5 : decode b_P_findCause 5 = .ok (.iand, 1) := by decide +kernel
theorem d_P_findCause_6 : decode b_P_findCause 6 = .ok (.ifCond .eq 26, 3) := by decide +kernel
theorem d_P_findCause_9 : decode b_P_findCause 9 = .ok (.aload_n 0, 1) := by decide +kernel
theorem d_P_findCause_10 : decode b_P_findCause 10 = .ok (.getfield 86, 3) := by decide +kernel
theorem d_P_findCause_13 : decode b_P_findCause 13 = .ok (.ifCond .ne 16, 3) := by decide +kernel
theorem d_P_findCause_16 : decode b_P_findCause 16 = .ok (.aload_n 0, 1) := by decide +kernel
theorem d_P_findCause_17 : decode b_P_findCause 17 = .ok (.getfield 12, 3) := by decide +kernel
theorem d_P_findCause_20 : decode b_P_findCause 20 = .ok (.invokevirtual 90, 3) := by decide +kernel
theorem d_P_findCause_23 : decode b_P_findCause 23 = .ok (.sipush 255, 3) := by decide +kernel
theorem d_P_findCause_26 : decode b_P_findCause 26 = .ok (.if_icmp .le 6, 3) := by decide +kernel
theorem d_P_findCause_29 : decode b_P_findCause 29 = .ok (.bipush 6, 2) := by decide +kernel
theorem d_P_findCause_31 : decode b_P_findCause 31 = .ok (.ireturn, 1) := by decide +kernel
theorem d_P_findCause_32 : decode b_P_findCause 32 = .ok (.aload_n 0, 1) := by decide +kernel
theorem d_P_findCause_33 : decode b_P_findCause 33 = .ok (.getfield 53, 3) := by decide +kernel
theorem d_P_findCause_36 : decode b_P_findCause 36 = .ok (.iconst 1, 1) := by decide +kernel
theorem d_P_findCause_37 : decode b_P_findCause 37 = .ok (.iand, 1) := by decide +kernel
theorem d_P_findCause_38 : decode b_P_findCause 38 = .ok (.ifCond .eq 30, 3) := by decide +kernel
theorem d_P_findCause_41 : decode b_P_findCause 41 = .ok (.aload_n 0, 1) := by decide +kernel
theorem d_P_findCause_42 : decode b_P_findCause 42 = .ok (.getfield 12, 3) := by decide +kernel
theorem d_P_findCause_45 : decode b_P_findCause 45 = .ok (.getfield 93, 3) := by decide +kernel
theorem d_P_findCause_48 : decode b_P_findCause 48 = .ok (.aload_n 0, 1) := by decide +kernel
theorem d_P_findCause_49 : decode b_P_findCause 49 = .ok (.getfield 96, 3) := by decide +kernel
theorem d_P_findCause_52 : decode b_P_findCause 52 = .ok (.ifCond .eq 10, 3) := by decide +kernel
theorem d_P_findCause_55 : decode b_P_findCause 55 = .ok (.aload_n 0, 1) := by decide +kernel
theorem d_P_findCause_56 : decode b_P_findCause 56 = .ok (.getfield 35, 3) := by decide +kernel
theorem d_P_findCause_59 : decode b_P_findCause 59 = .ok (.goto 4, 3) := by decide +kernel
theorem d_P_findCause_62 : decode b_P_findCause 62 = .ok (.iconst 1, 1) := by decide +kernel
theorem d_P_findCause_63 : decode b_P_findCause 63 = .ok (.if_icmp .lt 5, 3) := by decide +kernel
theorem d_P_findCause_66 : decode b_P_findCause 66 = .ok (.iconst 4, 1) := by decide +kernel
theorem d_P_findCause_67 : decode b_P_findCause 67 = .ok (.ireturn, 1) := by decide +kernel
theorem d_P_findCause_68 : decode b_P_findCause 68 = .ok (.aload_n 0, 1) := by decide +kernel
theorem d_P_findCause_69 : decode b_P_findCause 69 = .ok (.getfield 53, 3) := by decide +kernel
theorem d_P_findCause_72 : decode b_P_findCause 72 = .ok (.iconst 1, 1) := by decide +kernel
theorem d_P_findCause_73 : decode b_P_findCause 73 = .ok (.iand, 1) := by decide +kernel
theorem d_P_findCause_74 : decode b_P_findCause 74 = .ok (.ifCond .eq 36, 3) := by decide +kernel
theorem d_P_findCause_77 : decode b_P_findCause 77 = .ok (.aload_n 0, 1) := by decide +kernel
theorem d_P_findCause_78 : decode b_P_findCause 78 = .ok (.getfield 96, 3) := by decide +kernel
theorem d_P_findCause_81 : decode b_P_findCause 81 = .ok (.ifCond .eq 29, 3) := by decide +kernel
theorem d_P_findCause_84 : decode b_P_findCause 84 = .ok (.aload_n 0, 1) := by decide +kernel
theorem d_P_findCause_85 : decode b_P_findCause 85 = .ok (.getfield 12, 3) := by decide +kernel
theorem d_P_findCause_88 : decode b_P_findCause 88 = .ok (.getfield 93, 3) := by decide +kernel
theorem d_P_findCause_91 : decode b_P_findCause 91 = .ok (.ifCond .le 19, 3) := by decide +kernel
theorem d_P_findCause_94 : decode b_P_findCause 94 = .ok (.aload_n 0, 1) := by decide +kernel
theorem d_P_findCause_95 : decode b_P_findCause 95 = .ok (.getfield 99, 3) := by decide +kernel
theorem d_P_findCause_98 : decode b_P_findCause 98 = .ok (.iconst 4, 1) := by decide +kernel
theorem d_P_findCause_99 : decode b_P_findCause 99 = .ok (.aload_n 0, 1) := by decide +kernel
theorem d_P_findCause_100 : decode b_P_findCause 100 = .ok (.invokevirtual 102, 3) := by decide +kernel
theorem d_P_findCause_103 : decode b_P_findCause 103 = .ok (.imul, 1) := by decide +kernel
theorem d_P_findCause_104 : decode b_P_findCause 104 = .ok (.if_icmp .lt 6, 3) := by decide +kernel
theorem d_P_findCause_107 : decode b_P_findCause 107 = .ok (.bipush 12, 2) := by decide +kernel
theorem d_P_findCause_109 : decode b_P_findCause 109 = .ok (.ireturn, 1) := by decide +kernel
theorem d_P_findCause_110 : decode b_P_findCause 110 = .ok (.aload_n 0, 1) := by decide +kernel
theorem d_P_findCause_111 : decode b_P_findCause 111 = .ok (.getfield 53, 3) := by decide +kernel
theorem d_P_findCause_114 : decode b_P_findCause 114 = .ok (.iconst 2, 1) := by decide +kernel
theorem d_P_findCause_115 : decode b_P_findCause 115 = .ok (.iand, 1) := by decide +kernel
theorem d_P_findCause_116 : decode b_P_findCause 116 = .ok (.ifCond .eq 12, 3) := by decide +kernel
theorem d_P_findCause_119 : decode b_P_findCause 119 = .ok (.aload_n 0, 1) := by decide +kernel
theorem d_P_findCause_120 : decode b_P_findCause 120 = .ok (.getfield 105, 3) := by decide +kernel
theorem d_P_findCause_123 : decode b_P_findCause 123 = .ok (.ifCond .eq 5, 3) := by decide +kernel
theorem d_P_findCause_126 : decode b_P_findCause 126 = .ok (.iconst 2, 1) := by decide +kernel
theorem d_P_findCause_127 : decode b_P_findCause 127 = .ok (.ireturn, 1) := by decide +kernel
theorem d_P_findCause_128 : decode b_P_findCause 128 = .ok (.aload_n 0, 1) := by decide +kernel
theorem d_P_findCause_129 : decode b_P_findCause 129 = .ok (.getfield 53, 3) := by decide +kernel
theorem d_P_findCause_132 : decode b_P_findCause 132 = .ok (.bipush 8, 2) := by decide +kernel
theorem d_P_findCause_134 : decode b_P_findCause 134 = .ok (.iand, 1) := by decide +kernel
theorem d_P_findCause_135 : decode b_P_findCause 135 = .ok (.ifCond .eq 15, 3) := by decide +kernel
theorem d_P_findCause_138 : decode b_P_findCause 138 = .ok (.aload_n 0, 1) := by decide +kernel
theorem d_P_findCause_139 : decode b_P_findCause 139 = .ok (.getfield 24, 3) := by decide +kernel
theorem d_P_findCause_142 : decode b_P_findCause 142 = .ok (.getfield 108, 3) := by decide +kernel
theorem d_P_findCause_145 : decode b_P_findCause 145 = .ok (.ifCond .eq 5, 3) := by decide +kernel
theorem d_P_findCause_148 : decode b_P_findCause 148 = .ok (.iconst 0, 1) := by decide +kernel
theorem d_P_findCause_149 : decode b_P_findCause 149 = .ok (.ireturn, 1) := by decide +kernel
theorem d_P_findCause_150 : decode b_P_findCause 150 = .ok (.iconst 1, 1) := by decide +kernel
theorem d_P_findCause_151 : decode b_P_findCause 151 = .ok (.ireturn, 1) := by decide +kernel
theorem d_P_identify_0 : decode b_P_identify 0 = .ok (.aload_n 0, 1) := by decide +kernel
theorem d_P_identify_1 : decode b_P_identify 1 = .ok (.invokevirtual 111, 3) := by decide +kernel
theorem d_P_identify_4 : decode b_P_identify 4 = .ok (.istore_n 1, 1) := by decide +kernel
theorem d_P_identify_5 : decode b_P_identify 5 = .ok (.iload_n 1, 1) := by decide +kernel
theorem d_P_identify_6 : decode b_P_identify 6 = .ok (.iconst 2, 1) := by decide +kernel
theorem d_P_identify_7 : decode b_P_identify 7 = .ok (.if_icmp .ne 8, 3) := by decide +kernel
theorem d_P_identify_10 : decode b_P_identify 10 = .ok (.aload_n 0, 1) := by decide +kernel
theorem d_P_identify_11 : decode b_P_identify 11 = .ok (.iconst 0, 1) := by decide +kernel
theorem d_P_identify_12 : decode b_P_identify 12 = .ok (.putfield 105, 3) := by decide +kernel
theorem d_P_identify_15 : decode b_P_identify 15 = .ok (.aload_n 0, 1) := by decide +kernel
theorem d_P_identify_16 : decode b_P_identify 16 = .ok (.getfield 96, 3) := by decide +kernel
theorem d_P_identify_19 : decode b_P_identify 19 = .ok (.ifCond .eq 11, 3) := by decide +kernel
theorem d_P_identify_22 : decode b_P_identify 22 = .ok (.iload_n 1, 1) := by decide +kernel
theorem d_P_identify_23 : decode b_P_identify 23 = .ok (.sipush 192, 3) := by decide +kernel
theorem d_P_identify_26 : decode b_P_identify 26 = .ok (.iadd, 1) := by decide +kernel
theorem d_P_identify_27 : decode b_P_identify 27 = .ok (.goto 4, 3) := by decide +kernel
theorem d_P_identify_30 : decode b_P_identify 30 = .ok (.iload_n 1, 1) := by decide +kernel
theorem d_P_identify_31 : decode b_P_identify 31 = .ok (.ireturn, 1) := by decide +kernel
theorem d_P_takeIn_0 : decode b_P_takeIn 0 = .ok (.aload_n 0, 1) := by decide +kernel
theorem d_P_takeIn_1 : decode b_P_takeIn 1 = .ok (.getfield 12, 3) := by decide +kernel
theorem d_P_takeIn_4 : decode b_P_takeIn 4 = .ok (.getfield 93, 3) := by decide +kernel
theorem d_P_takeIn_7 : decode b_P_takeIn 7 = .ok (.ifCond .le 8, 3) := by decide +kernel
theorem d_P_takeIn_10 : decode b_P_takeIn 10 = .ok (.aload_n 0, 1) := by decide +kernel
theorem d_P_takeIn_11 : decode b_P_takeIn 11 = .ok (.iconst 0, 1) := by decide +kernel
theorem d_P_takeIn_12 : decode b_P_takeIn 12 = .ok (.putfield 99, 3) := by decide +kernel
theorem d_P_takeIn_15 : decode b_P_takeIn 15 = .ok (.aload_n 0, 1) := by decide +kernel
theorem d_P_takeIn_16 : decode b_P_takeIn 16 = .ok (.getfield 12, 3) := by decide +kernel
theorem d_P_takeIn_19 : decode b_P_takeIn 19 = .ok (.invokevirtual 114, 3) := by decide +kernel
theorem d_P_takeIn_22 : decode b_P_takeIn 22 = .ok (.sipush 255, 3) := by decide +kernel
theorem d_P_takeIn_25 : decode b_P_takeIn 25 = .ok (.iand, 1) := by decide +kernel
theorem d_P_takeIn_26 : decode b_P_takeIn 26 = .ok (.ireturn, 1) := by decide +kernel
theorem d_P_readStatus_0 : decode b_P_readStatus 0 = .ok (.aload_n 0, 1) := by decide +kernel
theorem d_P_readStatus_1 : decode b_P_readStatus 1 = .ok (.getfield 12, 3) := by decide +kernel
theorem d_P_readStatus_4 : decode b_P_readStatus 4 = .ok (.getfield 93, 3) := by decide +kernel
theorem d_P_readStatus_7 : decode b_P_readStatus 7 = .ok (.ifCond .le 7, 3) := by decide +kernel
theorem d_P_readStatus_10 : decode b_P_readStatus 10 = .ok (.iconst 1, 1) := by decide +kernel
theorem d_P_readStatus_11 : decode b_P_readStatus 11 = .ok (.goto 4, 3) := by decide +kernel
theorem d_P_readStatus_14 : decode b_P_readStatus 14 = .ok (.iconst 0, 1) := by decide +kernel
theorem d_P_readStatus_15 : decode b_P_readStatus 15 = .ok (.istore_n 1, 1) := by decide +kernel
theorem d_P_readStatus_16 : decode b_P_readStatus 16 = .ok (.iload_n 1, 1) := by decide +kernel
theorem d_P_readStatus_17 : decode b_P_readStatus 17 = .ok (.aload_n 0, 1) := by decide +kernel
theorem d_P_readStatus_18 : decode b_P_readStatus 18 = .ok (.getfield 86, 3) := by decide +kernel
theorem d_P_readStatus_21 : decode b_P_readStatus 21 = .ok (.ifCond .eq 7, 3) := by decide +kernel
theorem d_P_readStatus_24 : decode b_P_readStatus 24 = .ok (.iconst 2, 1) := by decide +kernel
theorem d_P_readStatus_25 : decode b_P_readStatus 25 = .ok (.goto 4, 3) := by decide +kernel
theorem d_P_readStatus_28 : decode b_P_readStatus 28 = .ok (.iconst 0, 1) := by decide +kernel
theorem d_P_readStatus_29 : decode b_P_readStatus 29 = .ok (.iadd, 1) := by decide +kernel
theorem d_P_readStatus_30 : decode b_P_readStatus 30 = .ok (.istore_n 1, 1) := by decide +kernel
theorem d_P_readStatus_31 : decode b_P_readStatus 31 = .ok (.iload_n 1, 1) := by decide +kernel
theorem d_P_readStatus_32 : decode b_P_readStatus 32 = .ok (.iconst 4, 1) := by decide +kernel
theorem d_P_readStatus_33 : decode b_P_readStatus 33 = .ok (.aload_n 0, 1) := by decide +kernel
theorem d_P_readStatus_34 : decode b_P_readStatus 34 = .ok (.getfield 12, 3) := by decide +kernel
theorem d_P_readStatus_37 : decode b_P_readStatus 37 = .ok (.invokevirtual 90, 3) := by decide +kernel
theorem d_P_readStatus_40 : decode b_P_readStatus 40 = .ok (.bipush 8, 2) := by decide +kernel
theorem d_P_readStatus_42 : decode b_P_readStatus 42 = .ok (.ishr, 1) := by decide +kernel
theorem d_P_readStatus_43 : decode b_P_readStatus 43 = .ok (.imul, 1) := by decide +kernel
theorem d_P_readStatus_44 : decode b_P_readStatus 44 = .ok (.iadd, 1) := by decide +kernel
theorem d_P_readStatus_45 : decode b_P_readStatus 45 = .ok (.istore_n 1, 1) := by decide +kernel
theorem d_P_readStatus_46 : decode b_P_readStatus 46 = .ok (.iload_n 1, 1) := by decide +kernel
theorem d_P_readStatus_47 : decode b_P_readStatus 47 = .ok (.aload_n 0, 1) := by decide +kernel
theorem d_P_readStatus_48 : decode b_P_readStatus 48 = .ok (.getfield 18, 3) := by decide +kernel
theorem d_P_readStatus_51 : decode b_P_readStatus 51 = .ok (.getfield 93, 3) := by decide +kernel
theorem d_P_readStatus_54 : decode b_P_readStatus 54 = .ok (.ifCond .ne 8, 3) := by decide +kernel
theorem d_P_readStatus_57 : decode b_P_readStatus 57 = .ok (.bipush 32, 2) := by decide +kernel
theorem d_P_readStatus_59 : decode b_P_readStatus 59 = .ok (.goto 4, 3) := by decide +kernel
theorem d_P_readStatus_62 : decode b_P_readStatus 62 = .ok (.iconst 0, 1) := by decide +kernel
theorem d_P_readStatus_63 : decode b_P_readStatus 63 = .ok (.iadd, 1) := by decide +kernel
theorem d_P_readStatus_64 : decode b_P_readStatus 64 = .ok (.istore_n 1, 1) := by decide +kernel
theorem d_P_readStatus_65 : decode b_P_readStatus 65 = .ok (.iload_n 1, 1) := by decide +kernel
theorem d_P_readStatus_66 : decode b_P_readStatus 66 = .ok (.aload_n 0, 1) := by decide +kernel
theorem d_P_readStatus_67 : decode b_P_readStatus 67 = .ok (.getfield 18, 3) := by decide +kernel
theorem d_P_readStatus_70 : decode b_P_readStatus 70 = .ok (.getfield 93, 3) := by decide +kernel
theorem d_P_readStatus_73 : decode b_P_readStatus 73 = .ok (.ifCond .ne 15, 3) := by decide +kernel
theorem d_P_readStatus_76 : decode b_P_readStatus 76 = .ok (.aload_n 0, 1) := by decide +kernel
theorem d_P_readStatus_77 : decode b_P_readStatus 77 = .ok (.getfield 117, 3) := by decide +kernel
theorem d_P_readStatus_80 : decode b_P_readStatus 80 = .ok (.ifCond .ne 8, 3) := by decide +kernel
theorem d_P_readStatus_83 : decode b_P_readStatus 83 = .ok (.bipush 64, 2) := by decide +kernel
theorem d_P_readStatus_85 : decode b_P_readStatus 85 = .ok (.goto 4, 3) := by decide +kernel
theorem d_P_readStatus_88 : decode b_P_readStatus 88 = .ok (.iconst 0, 1) := by decide +kernel
theorem d_P_readStatus_89 : decode b_P_readStatus 89 = .ok (.iadd, 1) := by decide +kernel
theorem d_P_readStatus_90 : decode b_P_readStatus 90 = .ok (.istore_n 1, 1) := by decide +kernel
theorem d_P_readStatus_91 : decode b_P_readStatus 91 = .ok (.iload_n 1, 1) := by decide +kernel
theorem d_P_readStatus_92 : decode b_P_readStatus 92 = .ok (.aload_n 0, 1) := by decide +kernel
theorem d_P_readStatus_93 : decode b_P_readStatus 93 = .ok (.getfield 96, 3) := by decide +kernel
theorem d_P_readStatus_96 : decode b_P_readStatus 96 = .ok (.ifCond .eq 22, 3) := by decide +kernel
theorem d_P_readStatus_99 : decode b_P_readStatus 99 = .ok (.aload_n 0, 1) := by decide +kernel
theorem d_P_readStatus_100 : decode b_P_readStatus 100 = .ok (.getfield 12, 3) := by decide +kernel
theorem d_P_readStatus_103 : decode b_P_readStatus 103 = .ok (.sipush 255, 3) := by decide +kernel
theorem d_P_readStatus_106 : decode b_P_readStatus 106 = .ok (.invokevirtual 120, 3) := by decide +kernel
theorem d_P_readStatus_109 : decode b_P_readStatus 109 = .ok (.ifCond .eq 9, 3) := by decide +kernel
theorem d_P_readStatus_112 : decode b_P_readStatus 112 = .ok (.sipush 128, 3) := by decide +kernel
theorem d_P_readStatus_115 : decode b_P_readStatus 115 = .ok (.goto 4, 3) := by decide +kernel
theorem d_P_readStatus_118 : decode b_P_readStatus 118 = .ok (.iconst 0, 1) := by decide +kernel
theorem d_P_readStatus_119 : decode b_P_readStatus 119 = .ok (.iadd, 1) := by decide +kernel
theorem d_P_readStatus_120 : decode b_P_readStatus 120 = .ok (.istore_n 1, 1) := by decide +kernel
theorem d_P_readStatus_121 : decode b_P_readStatus 121 = .ok (.aload_n 0, 1) := by decide +kernel
theorem d_P_readStatus_122 : decode b_P_readStatus 122 = .ok (.iconst 0, 1) := by decide +kernel
theorem d_P_readStatus_123 : decode b_P_readStatus 123 = .ok (.putfield 86, 3) := by decide +kernel
theorem d_P_readStatus_126 : decode b_P_readStatus 126 = .ok (.aload_n 0, 1) := by decide +kernel
theorem d_P_readStatus_127 : decode b_P_readStatus 127 = .ok (.getfield 12, 3) := by decide +kernel
theorem d_P_readStatus_130 : decode b_P_readStatus 130 = .ok (.aload_n 0, 1) := by decide +kernel
theorem d_P_readStatus_131 : decode b_P_readStatus 131 = .ok (.getfield 12, 3) := by decide +kernel
theorem d_P_readStatus_134 : decode b_P_readStatus 134 = .ok (.invokevirtual 90, 3) := by decide +kernel
theorem d_P_readStatus_137 : decode b_P_readStatus 137 = .ok (.sipush 255, 3) := by decide +kernel
theorem d_P_readStatus_140 : decode b_P_readStatus 140 = .ok (.iand, 1) := by decide +kernel
theorem d_P_readStatus_141 : decode b_P_readStatus 141 = .ok (.invokevirtual 124, 3) := by decide +kernel
theorem d_P_readStatus_144 : decode b_P_readStatus 144 = .ok (.iload_n 1, 1) := by decide +kernel
theorem d_P_readStatus_145 : decode b_P_readStatus 145 = .ok (.ireturn, 1) := by decide +kernel
theorem d_P_storeData_0 : decode b_P_storeData 0 = .ok (.aload_n 0, 1) := by decide +kernel
theorem d_P_storeData_1 : decode b_P_storeData 1 = .ok (.iconst 0, 1) := by decide +kernel
theorem d_P_storeData_2 : decode b_P_storeData 2 = .ok (.putfield 105, 3) := by decide +kernel
theorem d_P_storeData_5 : decode b_P_storeData 5 = .ok (.aload_n 0, 1) := by decide +kernel
theorem d_P_storeData_6 : decode b_P_storeData 6 = .ok (.getfield 18, 3) := by decide +kernel
theorem d_P_storeData_9 : decode b_P_storeData 9 = .ok (.iload_n 1, 1) := by decide +kernel
theorem d_P_storeData_10 : decode b_P_storeData 10 = .ok (.invokevirtual 127, 3) := by decide +kernel
theorem d_P_storeData_13 : decode b_P_storeData 13 = .ok (.aload_n 0, 1) := by decide +kernel
theorem d_P_storeData_14 : decode b_P_storeData 14 = .ok (.invokevirtual 130, 3) := by decide +kernel
theorem d_P_storeData_17 : decode b_P_storeData 17 = .ok (.return_, 1) := by decide +kernel
theorem d_P_storeEnabled_0 : decode b_P_storeEnabled 0 = .ok (.aload_n 0, 1) := by decide +kernel
theorem d_P_storeEnabled_1 : decode b_P_storeEnabled 1 = .ok (.getfield 53, 3) := by decide +kernel
theorem d_P_storeEnabled_4 : decode b_P_storeEnabled 4 = .ok (.iconst 2, 1) := by decide +kernel
theorem d_P_storeEnabled_5 : decode b_P_storeEnabled 5 = .ok (.iand, 1) := by decide +kernel
theorem d_P_storeEnabled_6 : decode b_P_storeEnabled 6 = .ok (.ifCond .ne 13, 3) := by decide +kernel
theorem d_P_storeEnabled_9 : decode b_P_storeEnabled 9 = .ok (.iload_n 1, 1) := by decide +kernel
theorem d_P_storeEnabled_10 : decode b_P_storeEnabled 10 = .ok (.iconst 2, 1) := by decide +kernel
theorem d_P_storeEnabled_11 : decode b_P_storeEnabled 11 = .ok (.iand, 1) := by decide +kernel
theorem d_P_storeEnabled_12 : decode b_P_storeEnabled 12 = .ok (.ifCond .eq 7, 3) := by decide +kernel
theorem d_P_storeEnabled_15 : decode b_P_storeEnabled 15 = .ok (.iconst 1, 1) := by decide +kernel
theorem d_P_storeEnabled_16 : decode b_P_storeEnabled 16 = .ok (.goto 4, 3) := by decide +kernel
theorem d_P_storeEnabled_19 : decode b_P_storeEnabled 19 = .ok (.iconst 0, 1) := by decide +kernel
theorem d_P_storeEnabled_20 : decode b_P_storeEnabled 20 = .ok (.istore_n 2, 1) := by decide +kernel
theorem d_P_storeEnabled_21 : decode b_P_storeEnabled 21 = .ok (.aload_n 0, 1) := by decide +kernel
theorem d_P_storeEnabled_22 : decode b_P_storeEnabled 22 = .ok (.iload_n 1, 1) := by decide +kernel
theorem d_P_storeEnabled_23 : decode b_P_storeEnabled 23 = .ok (.bipush 15, 2) := by decide +kernel
theorem d_P_storeEnabled_25 : decode b_P_storeEnabled 25 = .ok (.iand, 1) := by decide +kernel
theorem d_P_storeEnabled_26 : decode b_P_storeEnabled 26 = .ok (.putfield 53, 3) := by decide +kernel
theorem d_P_storeEnabled_29 : decode b_P_storeEnabled 29 = .ok (.iload_n 2, 1) := by decide +kernel
theorem d_P_storeEnabled_30 : decode b_P_storeEnabled 30 = .ok (.ifCond .eq 18, 3) := by decide +kernel
theorem d_P_storeEnabled_33 : decode b_P_storeEnabled 33 = .ok (.aload_n 0, 1) := by decide +kernel
theorem d_P_storeEnabled_34 : decode b_P_storeEnabled 34 = .ok (.getfield 18, 3) := by decide +kernel
theorem d_P_storeEnabled_37 : decode b_P_storeEnabled 37 = .ok (.getfield 93, 3) := by decide +kernel
theorem d_P_storeEnabled_40 : decode b_P_storeEnabled 40 = .ok (.ifCond .ne 8, 3) := by decide +kernel
theorem d_P_storeEnabled_43 : decode b_P_storeEnabled 43 = .ok (.aload_n 0, 1) := by decide +kernel
theorem d_P_storeEnabled_44 : decode b_P_storeEnabled 44 = .ok (.iconst 1, 1) := by decide +kernel
theorem d_P_storeEnabled_45 : decode b_P_storeEnabled 45 = .ok (.putfield 105, 3) := by decide +kernel
theorem d_P_storeEnabled_48 : decode b_P_storeEnabled 48 = .ok (.return_, 1) := by decide +kernel
theorem d_P_storeQueueing_0 : decode b_P_storeQueueing 0 = .ok (.aload_n 0, 1) := by decide +kernel
theorem d_P_storeQueueing_1 : decode b_P_storeQueueing 1 = .ok (.getfield 18, 3) := by decide +kernel
theorem d_P_storeQueueing_4 : decode b_P_storeQueueing 4 = .ok (.getfield 93, 3) := by decide +kernel
theorem d_P_storeQueueing_7 : decode b_P_storeQueueing 7 = .ok (.ifCond .le 7, 3) := by decide +kernel
theorem d_P_storeQueueing_10 : decode b_P_storeQueueing 10 = .ok (.iconst 1, 1) := by decide +kernel
theorem d_P_storeQueueing_11 : decode b_P_storeQueueing 11 = .ok (.goto 4, 3) := by decide +kernel
theorem d_P_storeQueueing_14 : decode b_P_storeQueueing 14 = .ok (.iconst 0, 1) := by decide +kernel
theorem d_P_storeQueueing_15 : decode b_P_storeQueueing 15 = .ok (.istore_n 2, 1) := by decide +kernel
theorem d_P_storeQueueing_16 : decode b_P_storeQueueing 16 = .ok (.iload_n 1, 1) := by decide +kernel
theorem d_P_storeQueueing_17 : decode b_P_storeQueueing 17 = .ok (.iconst 1, 1) := by decide +kernel
theorem d_P_storeQueueing_18 : decode b_P_storeQueueing 18 = .ok (.iand, 1) := by decide +kernel
theorem d_P_storeQueueing_19 : decode b_P_storeQueueing 19 = .ok (.ifCond .eq 7, 3) := by decide +kernel
theorem d_P_storeQueueing_22 : decode b_P_storeQueueing 22 = .ok (.iconst 1, 1) := by decide +kernel
theorem d_P_storeQueueing_23 : decode b_P_storeQueueing 23 = .ok (.goto 4, 3) := by decide +kernel
theorem d_P_storeQueueing_26 : decode b_P_storeQueueing 26 = .ok (.iconst 0, 1) := by decide +kernel
theorem d_P_storeQueueing_27 : decode b_P_storeQueueing 27 = .ok (.istore_n 3, 1) := by decide +kernel
theorem d_P_storeQueueing_28 : decode b_P_storeQueueing 28 = .ok (.iload_n 3, 1) := by decide +kernel
theorem d_P_storeQueueing_29 : decode b_P_storeQueueing 29 = .ok (.aload_n 0, 1) := by decide +kernel
theorem d_P_storeQueueing_30 : decode b_P_storeQueueing 30 = .ok (.getfield 96, 3) := by decide +kernel
theorem d_P_storeQueueing_33 : decode b_P_storeQueueing 33 = .ok (.if_icmp .eq 7, 3) := by decide +kernel
theorem d_P_storeQueueing_36 : decode b_P_storeQueueing 36 = .ok (.iconst 1, 1) := by decide +kernel
theorem d_P_storeQueueing_37 : decode b_P_storeQueueing 37 = .ok (.goto 4, 3) := by decide +kernel
theorem d_P_storeQueueing_40 : decode b_P_storeQueueing 40 = .ok (.iconst 0, 1) := by decide +kernel
theorem d_P_storeQueueing_41 : decode b_P_storeQueueing 41 = .ok (.istore 4, 2) := by decide +kernel
theorem d_P_storeQueueing_43 : decode b_P_storeQueueing 43 = .ok (.aload_n 0, 1) := by decide +kernel
theorem d_P_storeQueueing_44 : decode b_P_storeQueueing 44 = .ok (.iload_n 3, 1) := by decide +kernel
theorem d_P_storeQueueing_45 : decode b_P_storeQueueing 45 = .ok (.putfield 96, 3) := by decide +kernel
theorem d_P_storeQueueing_48 : decode b_P_storeQueueing 48 = .ok (.iload 4, 2) := by decide +kernel
theorem d_P_storeQueueing_50 : decode b_P_storeQueueing 50 = .ok (.ifCond .ne 16, 3) := by decide +kernel
theorem d_P_storeQueueing_53 : decode b_P_storeQueueing 53 = .ok (.aload_n 0, 1) := by decide +kernel
theorem d_P_storeQueueing_54 : decode b_P_storeQueueing 54 = .ok (.getfield 96, 3) := by decide +kernel
theorem d_P_storeQueueing_57 : decode b_P_storeQueueing 57 = .ok (.ifCond .eq 16, 3) := by decide +kernel
theorem d_P_storeQueueing_60 : decode b_P_storeQueueing 60 = .ok (.iload_n 1, 1) := by decide +kernel
theorem d_P_storeQueueing_61 : decode b_P_storeQueueing 61 = .ok (.iconst 2, 1) := by decide +kernel
theorem d_P_storeQueueing_62 : decode b_P_storeQueueing 62 = .ok (.iand, 1) := by decide +kernel
theorem d_P_storeQueueing_63 : decode b_P_storeQueueing 63 = .ok (.ifCond .eq 10, 3) := by decide +kernel
theorem d_P_storeQueueing_66 : decode b_P_storeQueueing 66 = .ok (.aload_n 0, 1) := by decide +kernel
theorem d_P_storeQueueing_67 : decode b_P_storeQueueing 67 = .ok (.getfield 12, 3) := by decide +kernel
theorem d_P_storeQueueing_70 : decode b_P_storeQueueing 70 = .ok (.invokevirtual 133, 3) := by decide +kernel
theorem d_P_storeQueueing_73 : decode b_P_storeQueueing 73 = .ok (.iload 4, 2) := by decide +kernel
theorem d_P_storeQueueing_75 : decode b_P_storeQueueing 75 = .ok (.ifCond .ne 16, 3) := by decide +kernel
theorem d_P_storeQueueing_78 : decode b_P_storeQueueing 78 = .ok (.aload_n 0, 1) := by decide +kernel
theorem d_P_storeQueueing_79 : decode b_P_storeQueueing 79 = .ok (.getfield 96, 3) := by decide +kernel
theorem d_P_storeQueueing_82 : decode b_P_storeQueueing 82 = .ok (.ifCond .eq 16, 3) := by decide +kernel
theorem d_P_storeQueueing_85 : decode b_P_storeQueueing 85 = .ok (.iload_n 1, 1) := by decide +kernel
theorem d_P_storeQueueing_86 : decode b_P_storeQueueing 86 = .ok (.iconst 4, 1) := by decide +kernel
theorem d_P_storeQueueing_87 : decode b_P_storeQueueing 87 = .ok (.iand, 1) := by decide +kernel
theorem d_P_storeQueueing_88 : decode b_P_storeQueueing 88 = .ok (.ifCond .eq 10, 3) := by decide +kernel
theorem d_P_storeQueueing_91 : decode b_P_storeQueueing 91 = .ok (.aload_n 0, 1) := by decide +kernel
theorem d_P_storeQueueing_92 : decode b_P_storeQueueing 92 = .ok (.getfield 18, 3) := by decide +kernel
theorem d_P_storeQueueing_95 : decode b_P_storeQueueing 95 = .ok (.invokevirtual 133, 3) := by decide +kernel
theorem d_P_storeQueueing_98 : decode b_P_storeQueueing 98 = .ok (.aload_n 0, 1) := by decide +kernel
theorem d_P_storeQueueing_99 : decode b_P_storeQueueing 99 = .ok (.getfield 12, 3) := by decide +kernel
theorem d_P_storeQueueing_102 : decode b_P_storeQueueing 102 = .ok (.aload_n 0, 1) := by decide +kernel
theorem d_P_storeQueueing_103 : decode b_P_storeQueueing 103 = .ok (.getfield 96, 3) := by decide +kernel
theorem d_P_storeQueueing_106 : decode b_P_storeQueueing 106 = .ok (.ifCond .eq 8, 3) := by decide +kernel
theorem d_P_storeQueueing_109 : decode b_P_storeQueueing 109 = .ok (.bipush 16, 2) := by decide +kernel
theorem d_P_storeQueueing_111 : decode b_P_storeQueueing 111 = .ok (.goto 4, 3) := by decide +kernel
theorem d_P_storeQueueing_114 : decode b_P_storeQueueing 114 = .ok (.iconst 1, 1) := by decide +kernel
theorem d_P_storeQueueing_115 : decode b_P_storeQueueing 115 = .ok (.putfield 136, 3) := by decide +kernel
theorem d_P_storeQueueing_118 : decode b_P_storeQueueing 118 = .ok (.aload_n 0, 1) := by decide +kernel
theorem d_P_storeQueueing_119 : decode b_P_storeQueueing 119 = .ok (.getfield 18, 3) := by decide +kernel
theorem d_P_storeQueueing_122 : decode b_P_storeQueueing 122 = .ok (.aload_n 0, 1) := by decide +kernel
theorem d_P_storeQueueing_123 : decode b_P_storeQueueing 123 = .ok (.getfield 12, 3) := by decide +kernel
theorem d_P_storeQueueing_126 : decode b_P_storeQueueing 126 = .ok (.getfield 136, 3) := by decide +kernel
theorem d_P_storeQueueing_129 : decode b_P_storeQueueing 129 = .ok (.putfield 136, 3) := by decide +kernel
theorem d_P_storeQueueing_132 : decode b_P_storeQueueing 132 = .ok (.aload_n 0, 1) := by decide +kernel
theorem d_P_storeQueueing_133 : decode b_P_storeQueueing 133 = .ok (.getfield 96, 3) := by decide +kernel
theorem d_P_storeQueueing_136 : decode b_P_storeQueueing 136 = .ok (.ifCond .eq 17, 3) := by decide +kernel
theorem d_P_storeQueueing_139 : decode b_P_storeQueueing 139 = .ok (.aload_n 0, 1) := by decide +kernel
theorem d_P_storeQueueing_140 : decode b_P_storeQueueing 140 = .ok (.getstatic 139, 3) := by decide +kernel
theorem d_P_storeQueueing_143 : decode b_P_storeQueueing 143 = .ok (.iload_n 1, 1) := by decide +kernel
theorem d_P_storeQueueing_144 : decode b_P_storeQueueing 144 = .ok (.bipush 6, 2) := by decide +kernel
theorem d_P_storeQueueing_146 : decode b_P_storeQueueing 146 = .ok (.ishr, 1) := by decide +kernel
theorem d_P_storeQueueing_147 : decode b_P_storeQueueing 147 = .ok (.iconst 3, 1) := by decide +kernel
theorem d_P_storeQueueing_148 : decode b_P_storeQueueing 148 = .ok (.iand, 1) := by decide +kernel
theorem d_P_storeQueueing_149 : decode b_P_storeQueueing 149 = .ok (.iaload, 1) := by decide +kernel
theorem d_P_storeQueueing_150 : decode b_P_storeQueueing 150 = .ok (.putfield 35, 3) := by decide +kernel
theorem d_P_storeQueueing_153 : decode b_P_storeQueueing 153 = .ok (.iload_n 2, 1) := by decide +kernel
theorem d_P_storeQueueing_154 : decode b_P_storeQueueing 154 = .ok (.ifCond .eq 18, 3) := by decide +kernel
theorem d_P_storeQueueing_157 : decode b_P_storeQueueing 157 = .ok (.aload_n 0, 1) := by decide +kernel
theorem d_P_storeQueueing_158 : decode b_P_storeQueueing 158 = .ok (.getfield 18, 3) := by decide +kernel
theorem d_P_storeQueueing_161 : decode b_P_storeQueueing 161 = .ok (.getfield 93, 3) := by decide +kernel
theorem d_P_storeQueueing_164 : decode b_P_storeQueueing 164 = .ok (.ifCond .ne 8, 3) := by decide +kernel
theorem d_P_storeQueueing_167 : decode b_P_storeQueueing 167 = .ok (.aload_n 0, 1) := by decide +kernel
theorem d_P_storeQueueing_168 : decode b_P_storeQueueing 168 = .ok (.iconst 1, 1) := by decide +kernel
theorem d_P_storeQueueing_169 : decode b_P_storeQueueing 169 = .ok (.putfield 105, 3) := by decide +kernel
theorem d_P_storeQueueing_172 : decode b_P_storeQueueing 172 = .ok (.return_, 1) := by decide +kernel
theorem d_P_moveIfPossible_0 : decode b_P_moveIfPossible 0 = .ok (.aload_n 0, 1) := by decide +kernel
theorem d_P_moveIfPossible_1 : decode b_P_moveIfPossible 1 = .ok (.getfield 117, 3) := by decide +kernel
theorem d_P_moveIfPossible_4 : decode b_P_moveIfPossible 4 = .ok (.ifCond .gt 13, 3) := by decide +kernel
theorem d_P_moveIfPossible_7 : decode b_P_moveIfPossible 7 = .ok (.aload_n 0, 1) := by decide +kernel
theorem d_P_moveIfPossible_8 : decode b_P_moveIfPossible 8 = .ok (.getfield 18, 3) := by decide +kernel
theorem d_P_moveIfPossible_11 : decode b_P_moveIfPossible 11 = .ok (.getfield 93, 3) := by decide +kernel
theorem d_P_moveIfPossible_14 : decode b_P_moveIfPossible 14 = .ok (.ifCond .ne 4, 3) := by decide +kernel
theorem d_P_moveIfPossible_17 : decode b_P_moveIfPossible 17 = .ok (.return_, 1) := by decide +kernel
theorem d_P_moveIfPossible_18 : decode b_P_moveIfPossible 18 = .ok (.aload_n 0, 1) := by decide +kernel
theorem d_P_moveIfPossible_19 : decode b_P_moveIfPossible 19 = .ok (.aload_n 0, 1) := by decide +kernel
theorem d_P_moveIfPossible_20 : decode b_P_moveIfPossible 20 = .ok (.getfield 18, 3) := by decide +kernel
theorem d_P_moveIfPossible_23 : decode b_P_moveIfPossible 23 = .ok (.invokevirtual 114, 3) := by decide +kernel
theorem d_P_moveIfPossible_26 : decode b_P_moveIfPossible 26 = .ok (.putfield 143, 3) := by decide +kernel
theorem d_P_moveIfPossible_29 : decode b_P_moveIfPossible 29 = .ok (.aload_n 0, 1) := by decide +kernel
theorem d_P_moveIfPossible_30 : decode b_P_moveIfPossible 30 = .ok (.aload_n 0, 1) := by decide +kernel
theorem d_P_moveIfPossible_31 : decode b_P_moveIfPossible 31 = .ok (.invokevirtual 102, 3) := by decide +kernel
theorem d_P_moveIfPossible_34 : decode b_P_moveIfPossible 34 = .ok (.putfield 117, 3) := by decide +kernel
theorem d_P_moveIfPossible_37 : decode b_P_moveIfPossible 37 = .ok (.aload_n 0, 1) := by decide +kernel
theorem d_P_moveIfPossible_38 : decode b_P_moveIfPossible 38 = .ok (.getfield 18, 3) := by decide +kernel
theorem d_P_moveIfPossible_41 : decode b_P_moveIfPossible 41 = .ok (.getfield 93, 3) := by decide +kernel
theorem d_P_moveIfPossible_44 : decode b_P_moveIfPossible 44 = .ok (.ifCond .ne 8, 3) := by decide +kernel
theorem d_P_moveIfPossible_47 : decode b_P_moveIfPossible 47 = .ok (.aload_n 0, 1) := by decide +kernel
theorem d_P_moveIfPossible_48 : decode b_P_moveIfPossible 48 = .ok (.iconst 1, 1) := by decide +kernel
theorem d_P_moveIfPossible_49 : decode b_P_moveIfPossible 49 = .ok (.putfield 105, 3) := by decide +kernel
theorem d_P_moveIfPossible_52 : decode b_P_moveIfPossible 52 = .ok (.return_, 1) := by decide +kernel
theorem d_P_arrive_0 : decode b_P_arrive 0 = .ok (.iload_n 1, 1) := by decide +kernel
theorem d_P_arrive_1 : decode b_P_arrive 1 = .ok (.sipush 256, 3) := by decide +kernel
theorem d_P_arrive_4 : decode b_P_arrive 4 = .ok (.iload_n 2, 1) := by decide +kernel
theorem d_P_arrive_5 : decode b_P_arrive 5 = .ok (.imul, 1) := by decide +kernel
theorem d_P_arrive_6 : decode b_P_arrive 6 = .ok (.iadd, 1) := by decide +kernel
theorem d_P_arrive_7 : decode b_P_arrive 7 = .ok (.istore_n 3, 1) := by decide +kernel
theorem d_P_arrive_8 : decode b_P_arrive 8 = .ok (.aload_n 0, 1) := by decide +kernel
theorem d_P_arrive_9 : decode b_P_arrive 9 = .ok (.iconst 0, 1) := by decide +kernel
theorem d_P_arrive_10 : decode b_P_arrive 10 = .ok (.putfield 99, 3) := by decide +kernel
theorem d_P_arrive_13 : decode b_P_arrive 13 = .ok (.aload_n 0, 1) := by decide +kernel
theorem d_P_arrive_14 : decode b_P_arrive 14 = .ok (.getfield 12, 3) := by decide +kernel
theorem d_P_arrive_17 : decode b_P_arrive 17 = .ok (.invokevirtual 146, 3) := by decide +kernel
theorem d_P_arrive_20 : decode b_P_arrive 20 = .ok (.ifCond .ne 12, 3) := by decide +kernel
theorem d_P_arrive_23 : decode b_P_arrive 23 = .ok (.aload_n 0, 1) := by decide +kernel
theorem d_P_arrive_24 : decode b_P_arrive 24 = .ok (.getfield 12, 3) := by decide +kernel
theorem d_P_arrive_27 : decode b_P_arrive 27 = .ok (.iload_n 3, 1) := by decide +kernel
theorem d_P_arrive_28 : decode b_P_arrive 28 = .ok (.invokevirtual 127, 3) := by decide +kernel
theorem d_P_arrive_31 : decode b_P_arrive 31 = .ok (.return_, 1) := by decide +kernel
theorem d_P_arrive_32 : decode b_P_arrive 32 = .ok (.aload_n 0, 1) := by decide +kernel
theorem d_P_arrive_33 : decode b_P_arrive 33 = .ok (.iconst 1, 1) := by decide +kernel
theorem d_P_arrive_34 : decode b_P_arrive 34 = .ok (.putfield 86, 3) := by decide +kernel
theorem d_P_arrive_37 : decode b_P_arrive 37 = .ok (.aload_n 0, 1) := by decide +kernel
theorem d_P_arrive_38 : decode b_P_arrive 38 = .ok (.getfield 96, 3) := by decide +kernel
theorem d_P_arrive_41 : decode b_P_arrive 41 = .ok (.ifCond .ne 11, 3) := by decide +kernel
theorem d_P_arrive_44 : decode b_P_arrive 44 = .ok (.aload_n 0, 1) := by decide +kernel
theorem d_P_arrive_45 : decode b_P_arrive 45 = .ok (.getfield 12, 3) := by decide +kernel
theorem d_P_arrive_48 : decode b_P_arrive 48 = .ok (.iload_n 3, 1) := by decide +kernel
theorem d_P_arrive_49 : decode b_P_arrive 49 = .ok (.invokevirtual 124, 3) := by decide +kernel
theorem d_P_arrive_52 : decode b_P_arrive 52 = .ok (.return_, 1) := by decide +kernel
theorem d_P_passTick_0 : decode b_P_passTick 0 = .ok (.aload_n 0, 1) := by decide +kernel
theorem d_P_passTick_1 : decode b_P_passTick 1 = .ok (.getfield 117, 3) := by decide +kernel
theorem d_P_passTick_4 : decode b_P_passTick 4 = .ok (.iconst 1, 1) := by decide +kernel
theorem d_P_passTick_5 : decode b_P_passTick 5 = .ok (.if_icmp .ne 7, 3) := by decide +kernel
theorem d_P_passTick_8 : decode b_P_passTick 8 = .ok (.iconst 1, 1) := by decide +kernel
theorem d_P_passTick_9 : decode b_P_passTick 9 = .ok (.goto 4, 3) := by decide +kernel
theorem d_P_passTick_12 : decode b_P_passTick 12 = .ok (.iconst 0, 1) := by decide +kernel
theorem d_P_passTick_13 : decode b_P_passTick 13 = .ok (.istore_n 1, 1) := by decide +kernel
theorem d_P_passTick_14 : decode b_P_passTick 14 = .ok (.aload_n 0, 1) := by decide +kernel
theorem d_P_passTick_15 : decode b_P_passTick 15 = .ok (.getfield 117, 3) := by decide +kernel
theorem d_P_passTick_18 : decode b_P_passTick 18 = .ok (.ifCond .le 13, 3) := by decide +kernel
theorem d_P_passTick_21 : decode b_P_passTick 21 = .ok (.aload_n 0, 1) := by decide +kernel
theorem d_P_passTick_22 : decode b_P_passTick 22 = .ok (.dup, 1) := by decide +kernel
theorem d_P_passTick_23 : decode b_P_passTick 23 = .ok (.getfield 117, 3) := by decide +kernel
theorem d_P_passTick_26 : decode b_P_passTick 26 = .ok (.iconst 1, 1) := by decide +kernel
theorem d_P_passTick_27 : decode b_P_passTick 27 = .ok (.isub, 1) := by decide +kernel
theorem d_P_passTick_28 : decode b_P_passTick 28 = .ok (.putfield 117, 3) := by decide +kernel
theorem d_P_passTick_31 : decode b_P_passTick 31 = .ok (.iload_n 1, 1) := by decide +kernel
theorem d_P_passTick_32 : decode b_P_passTick 32 = .ok (.ifCond .eq 23, 3) := by decide +kernel
theorem d_P_passTick_35 : decode b_P_passTick 35 = .ok (.aload_n 0, 1) := by decide +kernel
theorem d_P_passTick_36 : decode b_P_passTick 36 = .ok (.aload_n 0, 1) := by decide +kernel
theorem d_P_passTick_37 : decode b_P_passTick 37 = .ok (.getfield 143, 3) := by decide +kernel
theorem d_P_passTick_40 : decode b_P_passTick 40 = .ok (.bipush 32, 2) := by decide +kernel
theorem d_P_passTick_42 : decode b_P_passTick 42 = .ok (.aload_n 0, 1) := by decide +kernel
theorem d_P_passTick_43 : decode b_P_passTick 43 = .ok (.getfield 59, 3) := by decide +kernel
theorem d_P_passTick_46 : decode b_P_passTick 46 = .ok (.iconst 3, 1) := by decide +kernel
theorem d_P_passTick_47 : decode b_P_passTick 47 = .ok (.iand, 1) := by decide +kernel
theorem d_P_passTick_48 : decode b_P_passTick 48 = .ok (.ishl, 1) := by decide +kernel
theorem d_P_passTick_49 : decode b_P_passTick 49 = .ok (.iconst 1, 1) := by decide +kernel
theorem d_P_passTick_50 : decode b_P_passTick 50 = .ok (.isub, 1) := by decide +kernel
theorem d_P_passTick_51 : decode b_P_passTick 51 = .ok (.iand, 1) := by decide +kernel
theorem d_P_passTick_52 : decode b_P_passTick 52 = .ok (.invokevirtual 149, 3) := by decide +kernel
theorem d_P_passTick_55 : decode b_P_passTick 55 = .ok (.aload_n 0, 1) := by decide +kernel
theorem d_P_passTick_56 : decode b_P_passTick 56 = .ok (.invokevirtual 130, 3) := by decide +kernel
theorem d_P_passTick_59 : decode b_P_passTick 59 = .ok (.aload_n 0, 1) := by decide +kernel
theorem d_P_passTick_60 : decode b_P_passTick 60 = .ok (.getfield 12, 3) := by decide +kernel
theorem d_P_passTick_63 : decode b_P_passTick 63 = .ok (.getfield 93, 3) := by decide +kernel
theorem d_P_passTick_66 : decode b_P_passTick 66 = .ok (.ifCond .le 13, 3) := by decide +kernel
theorem d_P_passTick_69 : decode b_P_passTick 69 = .ok (.aload_n 0, 1) := by decide +kernel
theorem d_P_passTick_70 : decode b_P_passTick 70 = .ok (.dup, 1) := by decide +kernel
theorem d_P_passTick_71 : decode b_P_passTick 71 = .ok (.getfield 99, 3) := by decide +kernel
theorem d_P_passTick_74 : decode b_P_passTick 74 = .ok (.iconst 1, 1) := by decide +kernel
theorem d_P_passTick_75 : decode b_P_passTick 75 = .ok (.iadd, 1) := by decide +kernel
theorem d_P_passTick_76 : decode b_P_passTick 76 = .ok (.putfield 99, 3) := by decide +kernel
theorem d_P_passTick_79 : decode b_P_passTick 79 = .ok (.iload_n 1, 1) := by decide +kernel
theorem d_P_passTick_80 : decode b_P_passTick 80 = .ok (.ireturn, 1) := by decide +kernel
theorem d_P_sendOff_0 : decode b_P_sendOff 0 = .ok (.aload_n 0, 1) := by decide +kernel
theorem d_P_sendOff_1 : decode b_P_sendOff 1 = .ok (.getfield 24, 3) := by decide +kernel
theorem d_P_sendOff_4 : decode b_P_sendOff 4 = .ok (.invokevirtual 152, 3) := by decide +kernel
theorem d_P_sendOff_7 : decode b_P_sendOff 7 = .ok (.ifCond .eq 12, 3) := by decide +kernel
theorem d_P_sendOff_10 : decode b_P_sendOff 10 = .ok (.aload_n 0, 1) := by decide +kernel
theorem d_P_sendOff_11 : decode b_P_sendOff 11 = .ok (.iload_n 1, 1) := by decide +kernel
theorem d_P_sendOff_12 : decode b_P_sendOff 12 = .ok (.iconst 0, 1) := by decide +kernel
theorem d_P_sendOff_13 : decode b_P_sendOff 13 = .ok (.invokevirtual 155, 3) := by decide +kernel
theorem d_P_sendOff_16 : decode b_P_sendOff 16 = .ok (.goto 11, 3) := by decide +kernel
theorem d_P_sendOff_19 : decode b_P_sendOff 19 = .ok (.aload_n 0, 1) := by decide +kernel
theorem d_P_sendOff_20 : decode b_P_sendOff 20 = .ok (.getfield 31, 3) := by decide +kernel
theorem d_P_sendOff_23 : decode b_P_sendOff 23 = .ok (.iload_n 1, 1) := by decide +kernel
theorem d_P_sendOff_24 : decode b_P_sendOff 24 = .ok (.invokevirtual 159, 3) := by decide +kernel
theorem d_P_sendOff_27 : decode b_P_sendOff 27 = .ok (.return_, 1) := by decide +kernel
