theorem d_T_init_0 : decode b_T_init 0 = .ok (.aload_n 0, 1) := by decide +kernel
theorem d_T_init_1 : decode b_T_init 1 = .ok (.invokespecial 1, 3) := by decide +kernel
theorem d_T_init_4 : decode b_T_init 4 = .ok (.aload_n 0, 1) := by decide +kernel
theorem d_T_init_5 : decode b_T_init 5 = .ok (.bipush 96, 2) := by decide +kernel
theorem d_T_init_7 : decode b_T_init 7 = .ok (.newarray .int, 2) := by decide +kernel
theorem d_T_init_9 : decode b_T_init 9 = .ok (.putfield 7, 3) := by decide +kernel
theorem d_T_init_12 : decode b_T_init 12 = .ok (.aload_n 0, 1) := by decide +kernel
theorem d_T_init_13 : decode b_T_init 13 = .ok (.iconst 4, 1) := by decide +kernel
theorem d_T_init_14 : decode b_T_init 14 = .ok (.newarray .int, 2) := by decide +kernel
theorem d_T_init_16 : decode b_T_init 16 = .ok (.putfield 13, 3) := by decide +kernel
theorem d_T_init_19 : decode b_T_init 19 = .ok (.aload_n 0, 1) := by decide +kernel
theorem d_T_init_20 : decode b_T_init 20 = .ok (.bipush 16, 2) := by decide +kernel
theorem d_T_init_22 : decode b_T_init 22 = .ok (.newarray .int, 2) := by decide +kernel
theorem d_T_init_24 : decode b_T_init 24 = .ok (.putfield 16, 3) := by decide +kernel
theorem d_T_init_27 : decode b_T_init 27 = .ok (.aload_n 0, 1) := by decide +kernel
theorem d_T_init_28 : decode b_T_init 28 = .ok (.iconst 1, 1) := by decide +kernel
theorem d_T_init_29 : decode b_T_init 29 = .ok (.putfield 19, 3) := by decide +kernel
theorem d_T_init_32 : decode b_T_init 32 = .ok (.aload_n 0, 1) := by decide +kernel
theorem d_T_init_33 : decode b_T_init 33 = .ok (.iconst 1, 1) := by decide +kernel
theorem d_T_init_34 : decode b_T_init 34 = .ok (.putfield 23, 3) := by decide +kernel
theorem d_T_init_37 : decode b_T_init 37 = .ok (.aload_n 0, 1) := by decide +kernel
theorem d_T_init_38 : decode b_T_init 38 = .ok (.bipush 32, 2) := by decide +kernel
theorem d_T_init_40 : decode b_T_init 40 = .ok (.newarray .int, 2) := by decide +kernel
theorem d_T_init_42 : decode b_T_init 42 = .ok (.putfield 26, 3) := by decide +kernel
theorem d_T_init_45 : decode b_T_init 45 = .ok (.return_, 1) := by decide +kernel
theorem d_T_append_0 : decode b_T_append 0 = .ok (.aload_n 0, 1) := by decide +kernel
theorem d_T_append_1 : decode b_T_append 1 = .ok (.getfield 7, 3) := by decide +kernel
theorem d_T_append_4 : decode b_T_append 4 = .ok (.bipush 24, 2) := by decide +kernel
theorem d_T_append_6 : decode b_T_append 6 = .ok (.iload_n 1, 1) := by decide +kernel
theorem d_T_append_7 : decode b_T_append 7 = .ok (.imul, 1) := by decide +kernel
theorem d_T_append_8 : decode b_T_append 8 = .ok (.aload_n 0, 1) := by decide +kernel
theorem d_T_append_9 : decode b_T_append 9 = .ok (.getfield 13, 3) := by decide +kernel
theorem d_T_append_12 : decode b_T_append 12 = .ok (.iload_n 1, 1) := by decide +kernel
theorem d_T_append_13 : decode b_T_append 13 = .ok (.iaload, 1) := by decide +kernel
theorem d_T_append_14 : decode b_T_append 14 = .ok (.iadd, 1) := by decide +kernel
theorem d_T_append_15 : decode b_T_append 15 = .ok (.iload_n 2, 1) := by decide +kernel
theorem d_T_append_16 : decode b_T_append 16 = .ok (.iastore, 1) := by decide +kernel
theorem d_T_append_17 : decode b_T_append 17 = .ok (.aload_n 0, 1) := by decide +kernel
theorem d_T_append_18 : decode b_T_append 18 = .ok (.getfield 13, 3) := by decide +kernel
theorem d_T_append_21 : decode b_T_append 21 = .ok (.iload_n 1, 1) := by decide +kernel
theorem d_T_append_22 : decode b_T_append 22 = .ok (.aload_n 0, 1) := by decide +kernel
theorem d_T_append_23 : decode b_T_append 23 = .ok (.getfield 13, 3) := by decide +kernel
theorem d_T_append_26 : decode b_T_append 26 = .ok (.iload_n 1, 1) := by decide +kernel
theorem d_T_append_27 : decode b_T_append 27 = .ok (.iaload, 1) := by decide +kernel
theorem d_T_append_28 : decode b_T_append 28 = .ok (.iconst 1, 1) := by decide +kernel
theorem d_T_append_29 : decode b_T_append 29 = .ok (.iadd, 1) := by decide +kernel
theorem d_T_append_30 : decode b_T_append 30 = .ok (.iastore, 1) := by decide +kernel
theorem d_T_append_31 : decode b_T_append 31 = .ok (.return_, 1) := by decide +kernel
theorem d_T_removeFirst_0 : decode b_T_removeFirst 0 = .ok (.aload_n 0, 1) := by decide +kernel
theorem d_T_removeFirst_1 : decode b_T_removeFirst 1 = .ok (.getfield 7, 3) := by decide +kernel
theorem d_T_removeFirst_4 : decode b_T_removeFirst 4 = .ok (.bipush 24, 2) := by decide +kernel
theorem d_T_removeFirst_6 : decode b_T_removeFirst 6 = .ok (.iload_n 1, 1) := by decide +kernel
theorem d_T_removeFirst_7 : decode b_T_removeFirst 7 = .ok (.imul, 1) := by decide +kernel
theorem d_T_removeFirst_8 : decode b_T_removeFirst 8 = .ok (.iaload, 1) := by decide +kernel
theorem d_T_removeFirst_9 : decode b_T_removeFirst 9 = .ok (.istore_n 2, 1) := by decide +kernel
theorem d_T_removeFirst_10 : decode b_T_removeFirst 10 = .ok (.aload_n 0, 1) := by decide +kernel
theorem d_T_removeFirst_11 : decode b_T_removeFirst 11 = .ok (.getfield 13, 3) := by decide +kernel
theorem d_T_removeFirst_14 : decode b_T_removeFirst 14 = .ok (.iload_n 1, 1) := by decide +kernel
theorem d_T_removeFirst_15 : decode b_T_removeFirst 15 = .ok (.aload_n 0, 1) := by decide +kernel
theorem d_T_removeFirst_16 : decode b_T_removeFirst 16 = .ok (.getfield 13, 3) := by decide +kernel
theorem d_T_removeFirst_19 : decode b_T_removeFirst 19 = .ok (.iload_n 1, 1) := by decide +kernel
theorem d_T_removeFirst_20 : decode b_T_removeFirst 20 = .ok (.iaload, 1) := by decide +kernel
theorem d_T_removeFirst_21 : decode b_T_removeFirst 21 = .ok (.iconst 1, 1) := by decide +kernel
theorem d_T_removeFirst_22 : decode b_T_removeFirst 22 = .ok (.isub, 1) := by decide +kernel
theorem d_T_removeFirst_23 : decode b_T_removeFirst 23 = .ok (.iastore, 1) := by decide +kernel
theorem d_T_removeFirst_24 : decode b_T_removeFirst 24 = .ok (.bipush 24, 2) := by decide +kernel
theorem d_T_removeFirst_26 : decode b_T_removeFirst 26 = .ok (.iload_n 1, 1) := by decide +kernel
theorem d_T_removeFirst_27 : decode b_T_removeFirst 27 = .ok (.imul, 1) := by decide +kernel
theorem d_T_removeFirst_28 : decode b_T_removeFirst 28 = .ok (.istore_n 3, 1) := by decide +kernel
theorem d_T_removeFirst_29 : decode b_T_removeFirst 29 = .ok (.iload_n 3, 1) := by decide +kernel
theorem d_T_removeFirst_30 : decode b_T_removeFirst 30 = .ok (.bipush 24, 2) := by decide +kernel
theorem d_T_removeFirst_32 : decode b_T_removeFirst 32 = .ok (.iload_n 1, 1) := by decide +kernel
theorem d_T_removeFirst_33 : decode b_T_removeFirst 33 = .ok (.imul, 1) := by decide +kernel
theorem d_T_removeFirst_34 : decode b_T_removeFirst 34 = .ok (.aload_n 0, 1) := by decide +kernel
theorem d_T_removeFirst_35 : decode b_T_removeFirst 35 = .ok (.getfield 13, 3) := by decide +kernel
theorem d_T_removeFirst_38 : decode b_T_removeFirst 38 = .ok (.iload_n 1, 1) := by decide +kernel
theorem d_T_removeFirst_39 : decode b_T_removeFirst 39 = .ok (.iaload, 1) := by decide +kernel
theorem d_T_removeFirst_40 : decode b_T_removeFirst 40 = .ok (.iadd, 1) := by decide +kernel
theorem d_T_removeFirst_41 : decode b_T_removeFirst 41 = .ok (.if_icmp .ge 23, 3) := by decide +kernel
theorem d_T_removeFirst_44 : decode b_T_removeFirst 44 = .ok (.aload_n 0, 1) := by decide +kernel
theorem d_T_removeFirst_45 : decode b_T_removeFirst 45 = .ok (.getfield 7, 3) := by decide +kernel
theorem d_T_removeFirst_48 : decode b_T_removeFirst 48 = .ok (.iload_n 3, 1) := by decide +kernel
theorem d_T_removeFirst_49 : decode b_T_removeFirst 49 = .ok (.aload_n 0, 1) := by decide +kernel
theorem d_T_removeFirst_50 : decode b_T_removeFirst 50 = .ok (.getfield 7, 3) := by decide +kernel
theorem d_T_removeFirst_53 : decode b_T_removeFirst 53 = .ok (.iload_n 3, 1) := by decide +kernel
theorem d_T_removeFirst_54 : decode b_T_removeFirst 54 = .ok (.iconst 1, 1) := by decide +kernel
theorem d_T_removeFirst_55 : decode b_T_removeFirst 55 = .ok (.iadd, 1) := by decide +kernel
theorem d_T_removeFirst_56 : decode b_T_removeFirst 56 = .ok (.iaload, 1) := by decide +kernel
theorem d_T_removeFirst_57 : decode b_T_removeFirst 57 = .ok (.iastore, 1) := by decide +kernel
theorem d_T_removeFirst_58 : decode b_T_removeFirst 58 = .ok (.iinc 3 1, 3) := by decide +kernel
theorem d_T_removeFirst_61 : decode b_T_removeFirst 61 = .ok (.goto (-32), 3) := by decide +kernel
theorem d_T_removeFirst_64 : decode b_T_removeFirst 64 = .ok (.iload_n 2, 1) := by decide +kernel
theorem d_T_removeFirst_65 : decode b_T_removeFirst 65 = .ok (.ireturn, 1) := by decide +kernel
theorem d_T_places_0 : decode b_T_places 0 = .ok (.aload_n 0, 1) := by decide +kernel
theorem d_T_places_1 : decode b_T_places 1 = .ok (.getfield 29, 3) := by decide +kernel
theorem d_T_places_4 : decode b_T_places 4 = .ok (.ifCond .eq 8, 3) := by decide +kernel
theorem d_T_places_7 : decode b_T_places 7 = .ok (.bipush 16, 2) := by decide +kernel
theorem d_T_places_9 : decode b_T_places 9 = .ok (.goto 4, 3) := by decide +kernel
theorem d_T_places_12 : decode b_T_places 12 = .ok (.iconst 1, 1) := by decide +kernel
theorem d_T_places_13 : decode b_T_places 13 = .ok (.ireturn, 1) := by decide +kernel
theorem d_T_span_0 : decode b_T_span 0 = .ok (.aload_n 0, 1) := by decide +kernel
theorem d_T_span_1 : decode b_T_span 1 = .ok (.getfield 23, 3) := by decide +kernel
theorem d_T_span_4 : decode b_T_span 4 = .ok (.sipush 256, 3) := by decide +kernel
theorem d_T_span_7 : decode b_T_span 7 = .ok (.aload_n 0, 1) := by decide +kernel
theorem d_T_span_8 : decode b_T_span 8 = .ok (.getfield 33, 3) := by decide +kernel
theorem d_T_span_11 : decode b_T_span 11 = .ok (.imul, 1) := by decide +kernel
theorem d_T_span_12 : decode b_T_span 12 = .ok (.iadd, 1) := by decide +kernel
theorem d_T_span_13 : decode b_T_span 13 = .ok (.istore_n 1, 1) := by decide +kernel
theorem d_T_span_14 : decode b_T_span 14 = .ok (.iload_n 1, 1) := by decide +kernel
theorem d_T_span_15 : decode b_T_span 15 = .ok (.iconst 1, 1) := by decide +kernel
theorem d_T_span_16 : decode b_T_span 16 = .ok (.if_icmp .ge 7, 3) := by decide +kernel
theorem d_T_span_19 : decode b_T_span 19 = .ok (.iconst 1, 1) := by decide +kernel
theorem d_T_span_20 : decode b_T_span 20 = .ok (.goto 4, 3) := by decide +kernel
theorem d_T_span_23 : decode b_T_span 23 = .ok (.iload_n 1, 1) := by decide +kernel
theorem d_T_span_24 : decode b_T_span 24 = .ok (.ireturn, 1) := by decide +kernel
theorem d_T_isOn_0 : decode b_T_isOn 0 = .ok (.iload_n 1, 1) := by decide +kernel
theorem d_T_isOn_1 : decode b_T_isOn 1 = .ok (.iload_n 2, 1) := by decide +kernel
theorem d_T_isOn_2 : decode b_T_isOn 2 = .ok (.ishr, 1) := by decide +kernel
theorem d_T_isOn_3 : decode b_T_isOn 3 = .ok (.iconst 1, 1) := by decide +kernel
theorem d_T_isOn_4 : decode b_T_isOn 4 = .ok (.iand, 1) := by decide +kernel
theorem d_T_isOn_5 : decode b_T_isOn 5 = .ok (.iconst 1, 1) := by decide +kernel
theorem d_T_isOn_6 : decode b_T_isOn 6 = .ok (.if_icmp .ne 7, 3) := by decide +kernel
theorem d_T_isOn_9 : decode b_T_isOn 9 = .ok (.iconst 1, 1) := by decide +kernel
theorem d_T_isOn_10 : decode b_T_isOn 10 = .ok (.goto 4, 3) := by decide +kernel
theorem d_T_isOn_13 : decode b_T_isOn 13 = .ok (.iconst 0, 1) := by decide +kernel
theorem d_T_isOn_14 : decode b_T_isOn 14 = .ok (.ireturn, 1) := by decide +kernel
theorem d_T_loops_0 : decode b_T_loops 0 = .ok (.aload_n 0, 1) := by decide +kernel
theorem d_T_loops_1 : decode b_T_loops 1 = .ok (.aload_n 0, 1) := by decide +kernel
theorem d_T_loops_2 : decode b_T_loops 2 = .ok (.getfield 36, 3) := by decide +kernel
theorem d_T_loops_5 : decode b_T_loops 5 = .ok (.iconst 4, 1) := by decide +kernel
theorem d_T_loops_6 : decode b_T_loops 6 = .ok (.invokevirtual 39, 3) := by decide +kernel
theorem d_T_loops_9 : decode b_T_loops 9 = .ok (.ireturn, 1) := by decide +kernel
theorem d_T_inputs_0 : decode b_T_inputs 0 = .ok (.aload_n 0, 1) := by decide +kernel
theorem d_T_inputs_1 : decode b_T_inputs 1 = .ok (.invokevirtual 43, 3) := by decide +kernel
theorem d_T_inputs_4 : decode b_T_inputs 4 = .ok (.ifCond .ne 8, 3) := by decide +kernel
theorem d_T_inputs_7 : decode b_T_inputs 7 = .ok (.aload_n 0, 1) := by decide +kernel
theorem d_T_inputs_8 : decode b_T_inputs 8 = .ok (.getfield 47, 3) := by decide +kernel
theorem d_T_inputs_11 : decode b_T_inputs 11 = .ok (.ireturn, 1) := by decide +kernel
theorem d_T_inputs_12 : decode b_T_inputs 12 = .ok (.aload_n 0, 1) := by decide +kernel
theorem d_T_inputs_13 : decode b_T_inputs 13 = .ok (.getfield 36, 3) := by decide +kernel
theorem d_T_inputs_16 : decode b_T_inputs 16 = .ok (.bipush 12, 2) := by decide +kernel
theorem d_T_inputs_18 : decode b_T_inputs 18 = .ok (.iand, 1) := by decide +kernel
theorem d_T_inputs_19 : decode b_T_inputs 19 = .ok (.aload_n 0, 1) := by decide +kernel
theorem d_T_inputs_20 : decode b_T_inputs 20 = .ok (.getfield 36, 3) := by decide +kernel
theorem d_T_inputs_23 : decode b_T_inputs 23 = .ok (.iconst 1, 1) := by decide +kernel
theorem d_T_inputs_24 : decode b_T_inputs 24 = .ok (.ishr, 1) := by decide +kernel
theorem d_T_inputs_25 : decode b_T_inputs 25 = .ok (.iconst 1, 1) := by decide +kernel
theorem d_T_inputs_26 : decode b_T_inputs 26 = .ok (.iand, 1) := by decide +kernel
theorem d_T_inputs_27 : decode b_T_inputs 27 = .ok (.iadd, 1) := by decide +kernel
theorem d_T_inputs_28 : decode b_T_inputs 28 = .ok (.aload_n 0, 1) := by decide +kernel
theorem d_T_inputs_29 : decode b_T_inputs 29 = .ok (.getfield 36, 3) := by decide +kernel
theorem d_T_inputs_32 : decode b_T_inputs 32 = .ok (.iconst 1, 1) := by decide +kernel
theorem d_T_inputs_33 : decode b_T_inputs 33 = .ok (.iand, 1) := by decide +kernel
theorem d_T_inputs_34 : decode b_T_inputs 34 = .ok (.iconst 2, 1) := by decide +kernel
theorem d_T_inputs_35 : decode b_T_inputs 35 = .ok (.imul, 1) := by decide +kernel
theorem d_T_inputs_36 : decode b_T_inputs 36 = .ok (.iadd, 1) := by decide +kernel
theorem d_T_inputs_37 : decode b_T_inputs 37 = .ok (.ireturn, 1) := by decide +kernel
theorem d_T_noteInputs_0 : decode b_T_noteInputs 0 = .ok (.aload_n 0, 1) := by decide +kernel
theorem d_T_noteInputs_1 : decode b_T_noteInputs 1 = .ok (.invokevirtual 50, 3) := by decide +kernel
theorem d_T_noteInputs_4 : decode b_T_noteInputs 4 = .ok (.istore_n 2, 1) := by decide +kernel
theorem d_T_noteInputs_5 : decode b_T_noteInputs 5 = .ok (.iload_n 1, 1) := by decide +kernel
theorem d_T_noteInputs_6 : decode b_T_noteInputs 6 = .ok (.iload_n 2, 1) := by decide +kernel
theorem d_T_noteInputs_7 : decode b_T_noteInputs 7 = .ok (.ixor, 1) := by decide +kernel
theorem d_T_noteInputs_8 : decode b_T_noteInputs 8 = .ok (.bipush 11, 2) := by decide +kernel
theorem d_T_noteInputs_10 : decode b_T_noteInputs 10 = .ok (.iand, 1) := by decide +kernel
theorem d_T_noteInputs_11 : decode b_T_noteInputs 11 = .ok (.istore_n 3, 1) := by decide +kernel
theorem d_T_noteInputs_12 : decode b_T_noteInputs 12 = .ok (.iload_n 1, 1) := by decide +kernel
theorem d_T_noteInputs_13 : decode b_T_noteInputs 13 = .ok (.iload_n 2, 1) := by decide +kernel
theorem d_T_noteInputs_14 : decode b_T_noteInputs 14 = .ok (.iconst (-1), 1) := by decide +kernel
theorem d_T_noteInputs_15 : decode b_T_noteInputs 15 = .ok (.ixor, 1) := by decide +kernel
theorem d_T_noteInputs_16 : decode b_T_noteInputs 16 = .ok (.iand, 1) := by decide +kernel
theorem d_T_noteInputs_17 : decode b_T_noteInputs 17 = .ok (.iconst 4, 1) := by decide +kernel
theorem d_T_noteInputs_18 : decode b_T_noteInputs 18 = .ok (.iand, 1) := by decide +kernel
theorem d_T_noteInputs_19 : decode b_T_noteInputs 19 = .ok (.istore 4, 2) := by decide +kernel
theorem d_T_noteInputs_21 : decode b_T_noteInputs 21 = .ok (.aload_n 0, 1) := by decide +kernel
theorem d_T_noteInputs_22 : decode b_T_noteInputs 22 = .ok (.aload_n 0, 1) := by decide +kernel
theorem d_T_noteInputs_23 : decode b_T_noteInputs 23 = .ok (.getfield 54, 3) := by decide +kernel
theorem d_T_noteInputs_26 : decode b_T_noteInputs 26 = .ok (.iload_n 3, 1) := by decide +kernel
theorem d_T_noteInputs_27 : decode b_T_noteInputs 27 = .ok (.ior, 1) := by decide +kernel
theorem d_T_noteInputs_28 : decode b_T_noteInputs 28 = .ok (.iload 4, 2) := by decide +kernel
theorem d_T_noteInputs_30 : decode b_T_noteInputs 30 = .ok (.ior, 1) := by decide +kernel
theorem d_T_noteInputs_31 : decode b_T_noteInputs 31 = .ok (.putfield 54, 3) := by decide +kernel
theorem d_T_noteInputs_34 : decode b_T_noteInputs 34 = .ok (.return_, 1) := by decide +kernel
theorem d_T_moveOne_0 : decode b_T_moveOne 0 = .ok (.aload_n 0, 1) := by decide +kernel
theorem d_T_moveOne_1 : decode b_T_moveOne 1 = .ok (.getfield 57, 3) := by decide +kernel
theorem d_T_moveOne_4 : decode b_T_moveOne 4 = .ok (.ifCond .gt 12, 3) := by decide +kernel
theorem d_T_moveOne_7 : decode b_T_moveOne 7 = .ok (.aload_n 0, 1) := by decide +kernel
theorem d_T_moveOne_8 : decode b_T_moveOne 8 = .ok (.getfield 13, 3) := by decide +kernel
theorem d_T_moveOne_11 : decode b_T_moveOne 11 = .ok (.iconst 3, 1) := by decide +kernel
theorem d_T_moveOne_12 : decode b_T_moveOne 12 = .ok (.iaload, 1) := by decide +kernel
theorem d_T_moveOne_13 : decode b_T_moveOne 13 = .ok (.ifCond .ne 4, 3) := by decide +kernel
theorem d_T_moveOne_16 : decode b_T_moveOne 16 = .ok (.return_, 1) := by decide +kernel
theorem d_T_moveOne_17 : decode b_T_moveOne 17 = .ok (.aload_n 0, 1) := by decide +kernel
theorem d_T_moveOne_18 : decode b_T_moveOne 18 = .ok (.aload_n 0, 1) := by decide +kernel
theorem d_T_moveOne_19 : decode b_T_moveOne 19 = .ok (.iconst 3, 1) := by decide +kernel
theorem d_T_moveOne_20 : decode b_T_moveOne 20 = .ok (.invokevirtual 60, 3) := by decide +kernel
theorem d_T_moveOne_23 : decode b_T_moveOne 23 = .ok (.putfield 64, 3) := by decide +kernel
theorem d_T_moveOne_26 : decode b_T_moveOne 26 = .ok (.aload_n 0, 1) := by decide +kernel
theorem d_T_moveOne_27 : decode b_T_moveOne 27 = .ok (.aload_n 0, 1) := by decide +kernel
theorem d_T_moveOne_28 : decode b_T_moveOne 28 = .ok (.getfield 67, 3) := by decide +kernel
theorem d_T_moveOne_31 : decode b_T_moveOne 31 = .ok (.iload_n 1, 1) := by decide +kernel
theorem d_T_moveOne_32 : decode b_T_moveOne 32 = .ok (.iadd, 1) := by decide +kernel
theorem d_T_moveOne_33 : decode b_T_moveOne 33 = .ok (.aload_n 0, 1) := by decide +kernel
theorem d_T_moveOne_34 : decode b_T_moveOne 34 = .ok (.invokevirtual 70, 3) := by decide +kernel
theorem d_T_moveOne_37 : decode b_T_moveOne 37 = .ok (.iadd, 1) := by decide +kernel
theorem d_T_moveOne_38 : decode b_T_moveOne 38 = .ok (.putfield 57, 3) := by decide +kernel
theorem d_T_moveOne_41 : decode b_T_moveOne 41 = .ok (.aload_n 0, 1) := by decide +kernel
theorem d_T_moveOne_42 : decode b_T_moveOne 42 = .ok (.aload_n 0, 1) := by decide +kernel
theorem d_T_moveOne_43 : decode b_T_moveOne 43 = .ok (.getfield 73, 3) := by decide +kernel
theorem d_T_moveOne_46 : decode b_T_moveOne 46 = .ok (.ifCond .ne 12, 3) := by decide +kernel
theorem d_T_moveOne_49 : decode b_T_moveOne 49 = .ok (.aload_n 0, 1) := by decide +kernel
theorem d_T_moveOne_50 : decode b_T_moveOne 50 = .ok (.getfield 13, 3) := by decide +kernel
theorem d_T_moveOne_53 : decode b_T_moveOne 53 = .ok (.iconst 3, 1) := by decide +kernel
theorem d_T_moveOne_54 : decode b_T_moveOne 54 = .ok (.iaload, 1) := by decide +kernel
theorem d_T_moveOne_55 : decode b_T_moveOne 55 = .ok (.ifCond .ne 7, 3) := by decide +kernel
theorem d_T_moveOne_58 : decode b_T_moveOne 58 = .ok (.iconst 1, 1) := by decide +kernel
theorem d_T_moveOne_59 : decode b_T_moveOne 59 = .ok (.goto 4, 3) := by decide +kernel
theorem d_T_moveOne_62 : decode b_T_moveOne 62 = .ok (.iconst 0, 1) := by decide +kernel
theorem d_T_moveOne_63 : decode b_T_moveOne 63 = .ok (.putfield 73, 3) := by decide +kernel
theorem d_T_moveOne_66 : decode b_T_moveOne 66 = .ok (.return_, 1) := by decide +kernel
theorem d_T_arrive_0 : decode b_T_arrive 0 = .ok (.aload_n 0, 1) := by decide +kernel
theorem d_T_arrive_1 : decode b_T_arrive 1 = .ok (.aload_n 0, 1) := by decide +kernel
theorem d_T_arrive_2 : decode b_T_arrive 2 = .ok (.getfield 67, 3) := by decide +kernel
theorem d_T_arrive_5 : decode b_T_arrive 5 = .ok (.putfield 76, 3) := by decide +kernel
theorem d_T_arrive_8 : decode b_T_arrive 8 = .ok (.aload_n 0, 1) := by decide +kernel
theorem d_T_arrive_9 : decode b_T_arrive 9 = .ok (.getfield 13, 3) := by decide +kernel
theorem d_T_arrive_12 : decode b_T_arrive 12 = .ok (.iconst 2, 1) := by decide +kernel
theorem d_T_arrive_13 : decode b_T_arrive 13 = .ok (.iaload, 1) := by decide +kernel
theorem d_T_arrive_14 : decode b_T_arrive 14 = .ok (.aload_n 0, 1) := by decide +kernel
theorem d_T_arrive_15 : decode b_T_arrive 15 = .ok (.invokevirtual 79, 3) := by decide +kernel
theorem d_T_arrive_18 : decode b_T_arrive 18 = .ok (.if_icmp .ge 22, 3) := by decide +kernel
theorem d_T_arrive_21 : decode b_T_arrive 21 = .ok (.aload_n 0, 1) := by decide +kernel
theorem d_T_arrive_22 : decode b_T_arrive 22 = .ok (.getfield 16, 3) := by decide +kernel
theorem d_T_arrive_25 : decode b_T_arrive 25 = .ok (.aload_n 0, 1) := by decide +kernel
theorem d_T_arrive_26 : decode b_T_arrive 26 = .ok (.getfield 13, 3) := by decide +kernel
theorem d_T_arrive_29 : decode b_T_arrive 29 = .ok (.iconst 2, 1) := by decide +kernel
theorem d_T_arrive_30 : decode b_T_arrive 30 = .ok (.iaload, 1) := by decide +kernel
theorem d_T_arrive_31 : decode b_T_arrive 31 = .ok (.iload_n 2, 1) := by decide +kernel
theorem d_T_arrive_32 : decode b_T_arrive 32 = .ok (.iastore, 1) := by decide +kernel
theorem d_T_arrive_33 : decode b_T_arrive 33 = .ok (.aload_n 0, 1) := by decide +kernel
theorem d_T_arrive_34 : decode b_T_arrive 34 = .ok (.iconst 2, 1) := by decide +kernel
theorem d_T_arrive_35 : decode b_T_arrive 35 = .ok (.iload_n 1, 1) := by decide +kernel
theorem d_T_arrive_36 : decode b_T_arrive 36 = .ok (.invokevirtual 82, 3) := by decide +kernel
theorem d_T_arrive_39 : decode b_T_arrive 39 = .ok (.return_, 1) := by decide +kernel
theorem d_T_arrive_40 : decode b_T_arrive 40 = .ok (.aload_n 0, 1) := by decide +kernel
theorem d_T_arrive_41 : decode b_T_arrive 41 = .ok (.iconst 1, 1) := by decide +kernel
theorem d_T_arrive_42 : decode b_T_arrive 42 = .ok (.putfield 86, 3) := by decide +kernel
theorem d_T_arrive_45 : decode b_T_arrive 45 = .ok (.aload_n 0, 1) := by decide +kernel
theorem d_T_arrive_46 : decode b_T_arrive 46 = .ok (.getfield 29, 3) := by decide +kernel
theorem d_T_arrive_49 : decode b_T_arrive 49 = .ok (.ifCond .ne 18, 3) := by decide +kernel
theorem d_T_arrive_52 : decode b_T_arrive 52 = .ok (.aload_n 0, 1) := by decide +kernel
theorem d_T_arrive_53 : decode b_T_arrive 53 = .ok (.getfield 7, 3) := by decide +kernel
theorem d_T_arrive_56 : decode b_T_arrive 56 = .ok (.bipush 48, 2) := by decide +kernel
theorem d_T_arrive_58 : decode b_T_arrive 58 = .ok (.iload_n 1, 1) := by decide +kernel
theorem d_T_arrive_59 : decode b_T_arrive 59 = .ok (.iastore, 1) := by decide +kernel
theorem d_T_arrive_60 : decode b_T_arrive 60 = .ok (.aload_n 0, 1) := by decide +kernel
theorem d_T_arrive_61 : decode b_T_arrive 61 = .ok (.getfield 16, 3) := by decide +kernel
theorem d_T_arrive_64 : decode b_T_arrive 64 = .ok (.iconst 0, 1) := by decide +kernel
theorem d_T_arrive_65 : decode b_T_arrive 65 = .ok (.iload_n 2, 1) := by decide +kernel
theorem d_T_arrive_66 : decode b_T_arrive 66 = .ok (.iastore, 1) := by decide +kernel
theorem d_T_arrive_67 : decode b_T_arrive 67 = .ok (.return_, 1) := by decide +kernel
theorem d_T_takeIn_0 : decode b_T_takeIn 0 = .ok (.aload_n 0, 1) := by decide +kernel
theorem d_T_takeIn_1 : decode b_T_takeIn 1 = .ok (.iconst 2, 1) := by decide +kernel
theorem d_T_takeIn_2 : decode b_T_takeIn 2 = .ok (.invokevirtual 60, 3) := by decide +kernel
theorem d_T_takeIn_5 : decode b_T_takeIn 5 = .ok (.istore_n 1, 1) := by decide +kernel
theorem d_T_takeIn_6 : decode b_T_takeIn 6 = .ok (.iconst 0, 1) := by decide +kernel
theorem d_T_takeIn_7 : decode b_T_takeIn 7 = .ok (.istore_n 2, 1) := by decide +kernel
theorem d_T_takeIn_8 : decode b_T_takeIn 8 = .ok (.iload_n 2, 1) := by decide +kernel
theorem d_T_takeIn_9 : decode b_T_takeIn 9 = .ok (.aload_n 0, 1) := by decide +kernel
theorem d_T_takeIn_10 : decode b_T_takeIn 10 = .ok (.getfield 13, 3) := by decide +kernel
theorem d_T_takeIn_13 : decode b_T_takeIn 13 = .ok (.iconst 2, 1) := by decide +kernel
theorem d_T_takeIn_14 : decode b_T_takeIn 14 = .ok (.iaload, 1) := by decide +kernel
theorem d_T_takeIn_15 : decode b_T_takeIn 15 = .ok (.if_icmp .ge 23, 3) := by decide +kernel
theorem d_T_takeIn_18 : decode b_T_takeIn 18 = .ok (.aload_n 0, 1) := by decide +kernel
theorem d_T_takeIn_19 : decode b_T_takeIn 19 = .ok (.getfield 16, 3) := by decide +kernel
theorem d_T_takeIn_22 : decode b_T_takeIn 22 = .ok (.iload_n 2, 1) := by decide +kernel
theorem d_T_takeIn_23 : decode b_T_takeIn 23 = .ok (.aload_n 0, 1) := by decide +kernel
theorem d_T_takeIn_24 : decode b_T_takeIn 24 = .ok (.getfield 16, 3) := by decide +kernel
theorem d_T_takeIn_27 : decode b_T_takeIn 27 = .ok (.iload_n 2, 1) := by decide +kernel
theorem d_T_takeIn_28 : decode b_T_takeIn 28 = .ok (.iconst 1, 1) := by decide +kernel
theorem d_T_takeIn_29 : decode b_T_takeIn 29 = .ok (.iadd, 1) := by decide +kernel
theorem d_T_takeIn_30 : decode b_T_takeIn 30 = .ok (.iaload, 1) := by decide +kernel
theorem d_T_takeIn_31 : decode b_T_takeIn 31 = .ok (.iastore, 1) := by decide +kernel
theorem d_T_takeIn_32 : decode b_T_takeIn 32 = .ok (.iinc 2 1, 3) := by decide +kernel
theorem d_T_takeIn_35 : decode b_T_takeIn 35 = .ok (.goto (-27), 3) := by decide +kernel
theorem d_T_takeIn_38 : decode b_T_takeIn 38 = .ok (.aload_n 0, 1) := by decide +kernel
theorem d_T_takeIn_39 : decode b_T_takeIn 39 = .ok (.aload_n 0, 1) := by decide +kernel
theorem d_T_takeIn_40 : decode b_T_takeIn 40 = .ok (.getfield 67, 3) := by decide +kernel
theorem d_T_takeIn_43 : decode b_T_takeIn 43 = .ok (.putfield 76, 3) := by decide +kernel
theorem d_T_takeIn_46 : decode b_T_takeIn 46 = .ok (.iload_n 1, 1) := by decide +kernel
theorem d_T_takeIn_47 : decode b_T_takeIn 47 = .ok (.ireturn, 1) := by decide +kernel
theorem d_T_wire_0 : decode b_T_wire 0 = .ok (.iload_n 2, 1) := by decide +kernel
theorem d_T_wire_1 : decode b_T_wire 1 = .ok (.ifCond .lt 16, 3) := by decide +kernel
theorem d_T_wire_4 : decode b_T_wire 4 = .ok (.iload_n 2, 1) := by decide +kernel
theorem d_T_wire_5 : decode b_T_wire 5 = .ok (.bipush 7, 2) := by decide +kernel
theorem d_T_wire_7 : decode b_T_wire 7 = .ok (.if_icmp .gt 10, 3) := by decide +kernel
theorem d_T_wire_10 : decode b_T_wire 10 = .ok (.aload_n 0, 1) := by decide +kernel
theorem d_T_wire_11 : decode b_T_wire 11 = .ok (.invokevirtual 43, 3) := by decide +kernel
theorem d_T_wire_14 : decode b_T_wire 14 = .ok (.ifCond .eq 5, 3) := by decide +kernel
theorem d_T_wire_17 : decode b_T_wire 17 = .ok (.iconst 0, 1) := by decide +kernel
theorem d_T_wire_18 : decode b_T_wire 18 = .ok (.ireturn, 1) := by decide +kernel
theorem d_T_wire_19 : decode b_T_wire 19 = .ok (.aload_n 0, 1) := by decide +kernel
theorem d_T_wire_20 : decode b_T_wire 20 = .ok (.iload_n 1, 1) := by decide +kernel
theorem d_T_wire_21 : decode b_T_wire 21 = .ok (.sipush 255, 3) := by decide +kernel
theorem d_T_wire_24 : decode b_T_wire 24 = .ok (.iand, 1) := by decide +kernel
theorem d_T_wire_25 : decode b_T_wire 25 = .ok (.iload_n 2, 1) := by decide +kernel
theorem d_T_wire_26 : decode b_T_wire 26 = .ok (.invokevirtual 89, 3) := by decide +kernel
theorem d_T_wire_29 : decode b_T_wire 29 = .ok (.iconst 1, 1) := by decide +kernel
theorem d_T_wire_30 : decode b_T_wire 30 = .ok (.ireturn, 1) := by decide +kernel
theorem d_T_leave_0 : decode b_T_leave 0 = .ok (.aload_n 0, 1) := by decide +kernel
theorem d_T_leave_1 : decode b_T_leave 1 = .ok (.getfield 64, 3) := by decide +kernel
theorem d_T_leave_4 : decode b_T_leave 4 = .ok (.iconst 1, 1) := by decide +kernel
theorem d_T_leave_5 : decode b_T_leave 5 = .ok (.iconst 5, 1) := by decide +kernel
theorem d_T_leave_6 : decode b_T_leave 6 = .ok (.aload_n 0, 1) := by decide +kernel
theorem d_T_leave_7 : decode b_T_leave 7 = .ok (.getfield 92, 3) := by decide +kernel
theorem d_T_leave_10 : decode b_T_leave 10 = .ok (.iconst 3, 1) := by decide +kernel
theorem d_T_leave_11 : decode b_T_leave 11 = .ok (.iand, 1) := by decide +kernel
theorem d_T_leave_12 : decode b_T_leave 12 = .ok (.iadd, 1) := by decide +kernel
theorem d_T_leave_13 : decode b_T_leave 13 = .ok (.ishl, 1) := by decide +kernel
theorem d_T_leave_14 : decode b_T_leave 14 = .ok (.iconst 1, 1) := by decide +kernel
theorem d_T_leave_15 : decode b_T_leave 15 = .ok (.isub, 1) := by decide +kernel
theorem d_T_leave_16 : decode b_T_leave 16 = .ok (.iand, 1) := by decide +kernel
theorem d_T_leave_17 : decode b_T_leave 17 = .ok (.istore_n 1, 1) := by decide +kernel
theorem d_T_leave_18 : decode b_T_leave 18 = .ok (.aload_n 0, 1) := by decide +kernel
theorem d_T_leave_19 : decode b_T_leave 19 = .ok (.iconst 0, 1) := by decide +kernel
theorem d_T_leave_20 : decode b_T_leave 20 = .ok (.putfield 57, 3) := by decide +kernel
theorem d_T_leave_23 : decode b_T_leave 23 = .ok (.aload_n 0, 1) := by decide +kernel
theorem d_T_leave_24 : decode b_T_leave 24 = .ok (.invokevirtual 43, 3) := by decide +kernel
theorem d_T_leave_27 : decode b_T_leave 27 = .ok (.ifCond .eq 12, 3) := by decide +kernel
theorem d_T_leave_30 : decode b_T_leave 30 = .ok (.aload_n 0, 1) := by decide +kernel
theorem d_T_leave_31 : decode b_T_leave 31 = .ok (.iload_n 1, 1) := by decide +kernel
theorem d_T_leave_32 : decode b_T_leave 32 = .ok (.iconst 0, 1) := by decide +kernel
theorem d_T_leave_33 : decode b_T_leave 33 = .ok (.invokevirtual 89, 3) := by decide +kernel
theorem d_T_leave_36 : decode b_T_leave 36 = .ok (.goto 26, 3) := by decide +kernel
theorem d_T_leave_39 : decode b_T_leave 39 = .ok (.aload_n 0, 1) := by decide +kernel
theorem d_T_leave_40 : decode b_T_leave 40 = .ok (.getfield 26, 3) := by decide +kernel
theorem d_T_leave_43 : decode b_T_leave 43 = .ok (.aload_n 0, 1) := by decide +kernel
theorem d_T_leave_44 : decode b_T_leave 44 = .ok (.getfield 95, 3) := by decide +kernel
theorem d_T_leave_47 : decode b_T_leave 47 = .ok (.bipush 31, 2) := by decide +kernel
theorem d_T_leave_49 : decode b_T_leave 49 = .ok (.iand, 1) := by decide +kernel
theorem d_T_leave_50 : decode b_T_leave 50 = .ok (.iload_n 1, 1) := by decide +kernel
theorem d_T_leave_51 : decode b_T_leave 51 = .ok (.iastore, 1) := by decide +kernel
theorem d_T_leave_52 : decode b_T_leave 52 = .ok (.aload_n 0, 1) := by decide +kernel
theorem d_T_leave_53 : decode b_T_leave 53 = .ok (.aload_n 0, 1) := by decide +kernel
theorem d_T_leave_54 : decode b_T_leave 54 = .ok (.getfield 95, 3) := by decide +kernel
theorem d_T_leave_57 : decode b_T_leave 57 = .ok (.iconst 1, 1) := by decide +kernel
theorem d_T_leave_58 : decode b_T_leave 58 = .ok (.iadd, 1) := by decide +kernel
theorem d_T_leave_59 : decode b_T_leave 59 = .ok (.putfield 95, 3) := by decide +kernel
theorem d_T_leave_62 : decode b_T_leave 62 = .ok (.iconst 1, 1) := by decide +kernel
theorem d_T_leave_63 : decode b_T_leave 63 = .ok (.ireturn, 1) := by decide +kernel
theorem d_T_tick_0 : decode b_T_tick 0 = .ok (.iload_n 1, 1) := by decide +kernel
theorem d_T_tick_1 : decode b_T_tick 1 = .ok (.iconst 1, 1) := by decide +kernel
theorem d_T_tick_2 : decode b_T_tick 2 = .ok (.if_icmp .lt 9, 3) := by decide +kernel
theorem d_T_tick_5 : decode b_T_tick 5 = .ok (.iload_n 1, 1) := by decide +kernel
theorem d_T_tick_6 : decode b_T_tick 6 = .ok (.bipush 100, 2) := by decide +kernel
theorem d_T_tick_8 : decode b_T_tick 8 = .ok (.if_icmp .le 5, 3) := by decide +kernel
theorem d_T_tick_11 : decode b_T_tick 11 = .ok (.iconst (-1), 1) := by decide +kernel
theorem d_T_tick_12 : decode b_T_tick 12 = .ok (.ireturn, 1) := by decide +kernel
theorem d_T_tick_13 : decode b_T_tick 13 = .ok (.iconst 0, 1) := by decide +kernel
theorem d_T_tick_14 : decode b_T_tick 14 = .ok (.istore_n 2, 1) := by decide +kernel
theorem d_T_tick_15 : decode b_T_tick 15 = .ok (.iconst 0, 1) := by decide +kernel
theorem d_T_tick_16 : decode b_T_tick 16 = .ok (.istore_n 3, 1) := by decide +kernel
theorem d_T_tick_17 : decode b_T_tick 17 = .ok (.iload_n 3, 1) := by decide +kernel
theorem d_T_tick_18 : decode b_T_tick 18 = .ok (.iload_n 1, 1) := by decide +kernel
theorem d_T_tick_19 : decode b_T_tick 19 = .ok (.if_icmp .ge 48, 3) := by decide +kernel
theorem d_T_tick_22 : decode b_T_tick 22 = .ok (.aload_n 0, 1) := by decide +kernel
theorem d_T_tick_23 : decode b_T_tick 23 = .ok (.getfield 57, 3) := by decide +kernel
theorem d_T_tick_26 : decode b_T_tick 26 = .ok (.aload_n 0, 1) := by decide +kernel
theorem d_T_tick_27 : decode b_T_tick 27 = .ok (.getfield 67, 3) := by decide +kernel
theorem d_T_tick_30 : decode b_T_tick 30 = .ok (.iconst 1, 1) := by decide +kernel
theorem d_T_tick_31 : decode b_T_tick 31 = .ok (.iadd, 1) := by decide +kernel
theorem d_T_tick_32 : decode b_T_tick 32 = .ok (.if_icmp .ne 12, 3) := by decide +kernel
theorem d_T_tick_35 : decode b_T_tick 35 = .ok (.iload_n 2, 1) := by decide +kernel
theorem d_T_tick_36 : decode b_T_tick 36 = .ok (.aload_n 0, 1) := by decide +kernel
theorem d_T_tick_37 : decode b_T_tick 37 = .ok (.invokevirtual 98, 3) := by decide +kernel
theorem d_T_tick_40 : decode b_T_tick 40 = .ok (.iadd, 1) := by decide +kernel
theorem d_T_tick_41 : decode b_T_tick 41 = .ok (.goto 4, 3) := by decide +kernel
theorem d_T_tick_44 : decode b_T_tick 44 = .ok (.iload_n 2, 1) := by decide +kernel
theorem d_T_tick_45 : decode b_T_tick 45 = .ok (.istore_n 2, 1) := by decide +kernel
theorem d_T_tick_46 : decode b_T_tick 46 = .ok (.aload_n 0, 1) := by decide +kernel
theorem d_T_tick_47 : decode b_T_tick 47 = .ok (.iconst 1, 1) := by decide +kernel
theorem d_T_tick_48 : decode b_T_tick 48 = .ok (.invokevirtual 101, 3) := by decide +kernel
theorem d_T_tick_51 : decode b_T_tick 51 = .ok (.aload_n 0, 1) := by decide +kernel
theorem d_T_tick_52 : decode b_T_tick 52 = .ok (.aload_n 0, 1) := by decide +kernel
theorem d_T_tick_53 : decode b_T_tick 53 = .ok (.getfield 67, 3) := by decide +kernel
theorem d_T_tick_56 : decode b_T_tick 56 = .ok (.iconst 1, 1) := by decide +kernel
theorem d_T_tick_57 : decode b_T_tick 57 = .ok (.iadd, 1) := by decide +kernel
theorem d_T_tick_58 : decode b_T_tick 58 = .ok (.putfield 67, 3) := by decide +kernel
theorem d_T_tick_61 : decode b_T_tick 61 = .ok (.iinc 3 1, 3) := by decide +kernel
theorem d_T_tick_64 : decode b_T_tick 64 = .ok (.goto (-47), 3) := by decide +kernel
theorem d_T_tick_67 : decode b_T_tick 67 = .ok (.iload_n 2, 1) := by decide +kernel
theorem d_T_tick_68 : decode b_T_tick 68 = .ok (.ireturn, 1) := by decide +kernel
theorem d_T_lines_0 : decode b_T_lines 0 = .ok (.aload_n 0, 1) := by decide +kernel
theorem d_T_lines_1 : decode b_T_lines 1 = .ok (.invokevirtual 50, 3) := by decide +kernel
theorem d_T_lines_4 : decode b_T_lines 4 = .ok (.istore_n 2, 1) := by decide +kernel
theorem d_T_lines_5 : decode b_T_lines 5 = .ok (.aload_n 0, 1) := by decide +kernel
theorem d_T_lines_6 : decode b_T_lines 6 = .ok (.iload_n 1, 1) := by decide +kernel
theorem d_T_lines_7 : decode b_T_lines 7 = .ok (.bipush 15, 2) := by decide +kernel
theorem d_T_lines_9 : decode b_T_lines 9 = .ok (.iand, 1) := by decide +kernel
theorem d_T_lines_10 : decode b_T_lines 10 = .ok (.putfield 47, 3) := by decide +kernel
theorem d_T_lines_13 : decode b_T_lines 13 = .ok (.aload_n 0, 1) := by decide +kernel
theorem d_T_lines_14 : decode b_T_lines 14 = .ok (.iload_n 2, 1) := by decide +kernel
theorem d_T_lines_15 : decode b_T_lines 15 = .ok (.invokevirtual 105, 3) := by decide +kernel
theorem d_T_lines_18 : decode b_T_lines 18 = .ok (.return_, 1) := by decide +kernel
theorem d_T_sent_0 : decode b_T_sent 0 = .ok (.iload_n 1, 1) := by decide +kernel
theorem d_T_sent_1 : decode b_T_sent 1 = .ok (.ifCond .lt 17, 3) := by decide +kernel
theorem d_T_sent_4 : decode b_T_sent 4 = .ok (.iload_n 1, 1) := by decide +kernel
theorem d_T_sent_5 : decode b_T_sent 5 = .ok (.bipush 31, 2) := by decide +kernel
theorem d_T_sent_7 : decode b_T_sent 7 = .ok (.if_icmp .gt 11, 3) := by decide +kernel
theorem d_T_sent_10 : decode b_T_sent 10 = .ok (.iload_n 1, 1) := by decide +kernel
theorem d_T_sent_11 : decode b_T_sent 11 = .ok (.aload_n 0, 1) := by decide +kernel
theorem d_T_sent_12 : decode b_T_sent 12 = .ok (.getfield 95, 3) := by decide +kernel
theorem d_T_sent_15 : decode b_T_sent 15 = .ok (.if_icmp .lt 7, 3) := by decide +kernel
theorem d_T_sent_18 : decode b_T_sent 18 = .ok (.iconst (-1), 1) := by decide +kernel
theorem d_T_sent_19 : decode b_T_sent 19 = .ok (.goto 19, 3) := by decide +kernel
theorem d_T_sent_22 : decode b_T_sent 22 = .ok (.aload_n 0, 1) := by decide +kernel
theorem d_T_sent_23 : decode b_T_sent 23 = .ok (.getfield 26, 3) := by decide +kernel
theorem d_T_sent_26 : decode b_T_sent 26 = .ok (.aload_n 0, 1) := by decide +kernel
theorem d_T_sent_27 : decode b_T_sent 27 = .ok (.getfield 95, 3) := by decide +kernel
theorem d_T_sent_30 : decode b_T_sent 30 = .ok (.iconst 1, 1) := by decide +kernel
theorem d_T_sent_31 : decode b_T_sent 31 = .ok (.isub, 1) := by decide +kernel
theorem d_T_sent_32 : decode b_T_sent 32 = .ok (.iload_n 1, 1) := by decide +kernel
theorem d_T_sent_33 : decode b_T_sent 33 = .ok (.isub, 1) := by decide +kernel
theorem d_T_sent_34 : decode b_T_sent 34 = .ok (.bipush 31, 2) := by decide +kernel
theorem d_T_sent_36 : decode b_T_sent 36 = .ok (.iand, 1) := by decide +kernel
theorem d_T_sent_37 : decode b_T_sent 37 = .ok (.iaload, 1) := by decide +kernel
theorem d_T_sent_38 : decode b_T_sent 38 = .ok (.ireturn, 1) := by decide +kernel
theorem d_T_total_0 : decode b_T_total 0 = .ok (.aload_n 0, 1) := by decide +kernel
theorem d_T_total_1 : decode b_T_total 1 = .ok (.getfield 95, 3) := by decide +kernel
theorem d_T_total_4 : decode b_T_total 4 = .ok (.ireturn, 1) := by decide +kernel
theorem d_T_cause_0 : decode b_T_cause 0 = .ok (.aload_n 0, 1) := by decide +kernel
theorem d_T_cause_1 : decode b_T_cause 1 = .ok (.getfield 13, 3) := by decide +kernel
theorem d_T_cause_4 : decode b_T_cause 4 = .ok (.iconst 2, 1) := by decide +kernel
theorem d_T_cause_5 : decode b_T_cause 5 = .ok (.iaload, 1) := by decide +kernel
theorem d_T_cause_6 : decode b_T_cause 6 = .ok (.ifCond .le 7, 3) := by decide +kernel
theorem d_T_cause_9 : decode b_T_cause 9 = .ok (.iconst 1, 1) := by decide +kernel
theorem d_T_cause_10 : decode b_T_cause 10 = .ok (.goto 4, 3) := by decide +kernel
theorem d_T_cause_13 : decode b_T_cause 13 = .ok (.iconst 0, 1) := by decide +kernel
theorem d_T_cause_14 : decode b_T_cause 14 = .ok (.istore_n 1, 1) := by decide +kernel
theorem d_T_cause_15 : decode b_T_cause 15 = .ok (.aload_n 0, 1) := by decide +kernel
theorem d_T_cause_16 : decode b_T_cause 16 = .ok (.aload_n 0, 1) := by decide +kernel
theorem d_T_cause_17 : decode b_T_cause 17 = .ok (.getfield 108, 3) := by decide +kernel
theorem d_T_cause_20 : decode b_T_cause 20 = .ok (.iconst 0, 1) := by decide +kernel
theorem d_T_cause_21 : decode b_T_cause 21 = .ok (.invokevirtual 39, 3) := by decide +kernel
theorem d_T_cause_24 : decode b_T_cause 24 = .ok (.istore_n 2, 1) := by decide +kernel
theorem d_T_cause_25 : decode b_T_cause 25 = .ok (.aload_n 0, 1) := by decide +kernel
theorem d_T_cause_26 : decode b_T_cause 26 = .ok (.aload_n 0, 1) := by decide +kernel
theorem d_T_cause_27 : decode b_T_cause 27 = .ok (.getfield 108, 3) := by decide +kernel
theorem d_T_cause_30 : decode b_T_cause 30 = .ok (.iconst 2, 1) := by decide +kernel
theorem d_T_cause_31 : decode b_T_cause 31 = .ok (.invokevirtual 39, 3) := by decide +kernel
theorem d_T_cause_34 : decode b_T_cause 34 = .ok (.ifCond .eq 26, 3) := by decide +kernel
theorem d_T_cause_37 : decode b_T_cause 37 = .ok (.aload_n 0, 1) := by decide +kernel
theorem d_T_cause_38 : decode b_T_cause 38 = .ok (.getfield 86, 3) := by decide +kernel
theorem d_T_cause_41 : decode b_T_cause 41 = .ok (.ifCond .ne 16, 3) := by decide +kernel
theorem d_T_cause_44 : decode b_T_cause 44 = .ok (.iload_n 1, 1) := by decide +kernel
theorem d_T_cause_45 : decode b_T_cause 45 = .ok (.ifCond .eq 15, 3) := by decide +kernel
theorem d_T_cause_48 : decode b_T_cause 48 = .ok (.aload_n 0, 1) := by decide +kernel
theorem d_T_cause_49 : decode b_T_cause 49 = .ok (.getfield 16, 3) := by decide +kernel
theorem d_T_cause_52 : decode b_T_cause 52 = .ok (.iconst 0, 1) := by decide +kernel
theorem d_T_cause_53 : decode b_T_cause 53 = .ok (.iaload, 1) := by decide +kernel
theorem d_T_cause_54 : decode b_T_cause 54 = .ok (.ifCond .eq 6, 3) := by decide +kernel
theorem d_T_cause_57 : decode b_T_cause 57 = .ok (.bipush 6, 2) := by decide +kernel
theorem d_T_cause_59 : decode b_T_cause 59 = .ok (.ireturn, 1) := by decide +kernel
theorem d_T_cause_60 : decode b_T_cause 60 = .ok (.iload_n 2, 1) := by decide +kernel
theorem d_T_cause_61 : decode b_T_cause 61 = .ok (.ifCond .eq 29, 3) := by decide +kernel
theorem d_T_cause_64 : decode b_T_cause 64 = .ok (.aload_n 0, 1) := by decide +kernel
theorem d_T_cause_65 : decode b_T_cause 65 = .ok (.getfield 13, 3) := by decide +kernel
theorem d_T_cause_68 : decode b_T_cause 68 = .ok (.iconst 2, 1) := by decide +kernel
theorem d_T_cause_69 : decode b_T_cause 69 = .ok (.iaload, 1) := by decide +kernel
theorem d_T_cause_70 : decode b_T_cause 70 = .ok (.aload_n 0, 1) := by decide +kernel
theorem d_T_cause_71 : decode b_T_cause 71 = .ok (.getfield 29, 3) := by decide +kernel
theorem d_T_cause_74 : decode b_T_cause 74 = .ok (.ifCond .eq 10, 3) := by decide +kernel
theorem d_T_cause_77 : decode b_T_cause 77 = .ok (.aload_n 0, 1) := by decide +kernel
theorem d_T_cause_78 : decode b_T_cause 78 = .ok (.getfield 19, 3) := by decide +kernel
theorem d_T_cause_81 : decode b_T_cause 81 = .ok (.goto 4, 3) := by decide +kernel
theorem d_T_cause_84 : decode b_T_cause 84 = .ok (.iconst 1, 1) := by decide +kernel
theorem d_T_cause_85 : decode b_T_cause 85 = .ok (.if_icmp .lt 5, 3) := by decide +kernel
theorem d_T_cause_88 : decode b_T_cause 88 = .ok (.iconst 4, 1) := by decide +kernel
theorem d_T_cause_89 : decode b_T_cause 89 = .ok (.ireturn, 1) := by decide +kernel
theorem d_T_cause_90 : decode b_T_cause 90 = .ok (.iload_n 2, 1) := by decide +kernel
theorem d_T_cause_91 : decode b_T_cause 91 = .ok (.ifCond .eq 35, 3) := by decide +kernel
theorem d_T_cause_94 : decode b_T_cause 94 = .ok (.aload_n 0, 1) := by decide +kernel
theorem d_T_cause_95 : decode b_T_cause 95 = .ok (.getfield 29, 3) := by decide +kernel
theorem d_T_cause_98 : decode b_T_cause 98 = .ok (.ifCond .eq 28, 3) := by decide +kernel
theorem d_T_cause_101 : decode b_T_cause 101 = .ok (.iload_n 1, 1) := by decide +kernel
theorem d_T_cause_102 : decode b_T_cause 102 = .ok (.ifCond .eq 24, 3) := by decide +kernel
theorem d_T_cause_105 : decode b_T_cause 105 = .ok (.aload_n 0, 1) := by decide +kernel
theorem d_T_cause_106 : decode b_T_cause 106 = .ok (.getfield 67, 3) := by decide +kernel
theorem d_T_cause_109 : decode b_T_cause 109 = .ok (.aload_n 0, 1) := by decide +kernel
theorem d_T_cause_110 : decode b_T_cause 110 = .ok (.getfield 76, 3) := by decide +kernel
theorem d_T_cause_113 : decode b_T_cause 113 = .ok (.isub, 1) := by decide +kernel
theorem d_T_cause_114 : decode b_T_cause 114 = .ok (.iconst 4, 1) := by decide +kernel
theorem d_T_cause_115 : decode b_T_cause 115 = .ok (.aload_n 0, 1) := by decide +kernel
theorem d_T_cause_116 : decode b_T_cause 116 = .ok (.invokevirtual 70, 3) := by decide +kernel
theorem d_T_cause_119 : decode b_T_cause 119 = .ok (.imul, 1) := by decide +kernel
theorem d_T_cause_120 : decode b_T_cause 120 = .ok (.if_icmp .lt 6, 3) := by decide +kernel
theorem d_T_cause_123 : decode b_T_cause 123 = .ok (.bipush 12, 2) := by decide +kernel
theorem d_T_cause_125 : decode b_T_cause 125 = .ok (.ireturn, 1) := by decide +kernel
theorem d_T_cause_126 : decode b_T_cause 126 = .ok (.aload_n 0, 1) := by decide +kernel
theorem d_T_cause_127 : decode b_T_cause 127 = .ok (.aload_n 0, 1) := by decide +kernel
theorem d_T_cause_128 : decode b_T_cause 128 = .ok (.getfield 108, 3) := by decide +kernel
theorem d_T_cause_131 : decode b_T_cause 131 = .ok (.iconst 1, 1) := by decide +kernel
theorem d_T_cause_132 : decode b_T_cause 132 = .ok (.invokevirtual 39, 3) := by decide +kernel
theorem d_T_cause_135 : decode b_T_cause 135 = .ok (.ifCond .eq 14, 3) := by decide +kernel
theorem d_T_cause_138 : decode b_T_cause 138 = .ok (.aload_n 0, 1) := by decide +kernel
theorem d_T_cause_139 : decode b_T_cause 139 = .ok (.getfield 73, 3) := by decide +kernel
theorem d_T_cause_142 : decode b_T_cause 142 = .ok (.ifCond .eq 7, 3) := by decide +kernel
theorem d_T_cause_145 : decode b_T_cause 145 = .ok (.iconst 2, 1) := by decide +kernel
theorem d_T_cause_146 : decode b_T_cause 146 = .ok (.goto 27, 3) := by decide +kernel
theorem d_T_cause_149 : decode b_T_cause 149 = .ok (.aload_n 0, 1) := by decide +kernel
theorem d_T_cause_150 : decode b_T_cause 150 = .ok (.aload_n 0, 1) := by decide +kernel
theorem d_T_cause_151 : decode b_T_cause 151 = .ok (.getfield 108, 3) := by decide +kernel
theorem d_T_cause_154 : decode b_T_cause 154 = .ok (.iconst 3, 1) := by decide +kernel
theorem d_T_cause_155 : decode b_T_cause 155 = .ok (.invokevirtual 39, 3) := by decide +kernel
theorem d_T_cause_158 : decode b_T_cause 158 = .ok (.ifCond .eq 14, 3) := by decide +kernel
theorem d_T_cause_161 : decode b_T_cause 161 = .ok (.aload_n 0, 1) := by decide +kernel
theorem d_T_cause_162 : decode b_T_cause 162 = .ok (.getfield 54, 3) := by decide +kernel
theorem d_T_cause_165 : decode b_T_cause 165 = .ok (.ifCond .eq 7, 3) := by decide +kernel
theorem d_T_cause_168 : decode b_T_cause 168 = .ok (.iconst 0, 1) := by decide +kernel
theorem d_T_cause_169 : decode b_T_cause 169 = .ok (.goto 4, 3) := by decide +kernel
theorem d_T_cause_172 : decode b_T_cause 172 = .ok (.iconst 1, 1) := by decide +kernel
theorem d_T_cause_173 : decode b_T_cause 173 = .ok (.ireturn, 1) := by decide +kernel
theorem d_T_readCause_0 : decode b_T_readCause 0 = .ok (.aload_n 0, 1) := by decide +kernel
theorem d_T_readCause_1 : decode b_T_readCause 1 = .ok (.invokevirtual 111, 3) := by decide +kernel
theorem d_T_readCause_4 : decode b_T_readCause 4 = .ok (.istore_n 1, 1) := by decide +kernel
theorem d_T_readCause_5 : decode b_T_readCause 5 = .ok (.aload_n 0, 1) := by decide +kernel
theorem d_T_readCause_6 : decode b_T_readCause 6 = .ok (.aload_n 0, 1) := by decide +kernel
theorem d_T_readCause_7 : decode b_T_readCause 7 = .ok (.getfield 73, 3) := by decide +kernel
theorem d_T_readCause_10 : decode b_T_readCause 10 = .ok (.ifCond .eq 12, 3) := by decide +kernel
theorem d_T_readCause_13 : decode b_T_readCause 13 = .ok (.iload_n 1, 1) := by decide +kernel
theorem d_T_readCause_14 : decode b_T_readCause 14 = .ok (.iconst 2, 1) := by decide +kernel
theorem d_T_readCause_15 : decode b_T_readCause 15 = .ok (.if_icmp .eq 7, 3) := by decide +kernel
theorem d_T_readCause_18 : decode b_T_readCause 18 = .ok (.iconst 1, 1) := by decide +kernel
theorem d_T_readCause_19 : decode b_T_readCause 19 = .ok (.goto 4, 3) := by decide +kernel
theorem d_T_readCause_22 : decode b_T_readCause 22 = .ok (.iconst 0, 1) := by decide +kernel
theorem d_T_readCause_23 : decode b_T_readCause 23 = .ok (.putfield 73, 3) := by decide +kernel
theorem d_T_readCause_26 : decode b_T_readCause 26 = .ok (.aload_n 0, 1) := by decide +kernel
theorem d_T_readCause_27 : decode b_T_readCause 27 = .ok (.getfield 29, 3) := by decide +kernel
theorem d_T_readCause_30 : decode b_T_readCause 30 = .ok (.ifCond .eq 11, 3) := by decide +kernel
theorem d_T_readCause_33 : decode b_T_readCause 33 = .ok (.iload_n 1, 1) := by decide +kernel
theorem d_T_readCause_34 : decode b_T_readCause 34 = .ok (.sipush 192, 3) := by decide +kernel
theorem d_T_readCause_37 : decode b_T_readCause 37 = .ok (.iadd, 1) := by decide +kernel
theorem d_T_readCause_38 : decode b_T_readCause 38 = .ok (.goto 4, 3) := by decide +kernel
theorem d_T_readCause_41 : decode b_T_readCause 41 = .ok (.iload_n 1, 1) := by decide +kernel
theorem d_T_readCause_42 : decode b_T_readCause 42 = .ok (.ireturn, 1) := by decide +kernel
theorem d_T_readStatus_0 : decode b_T_readStatus 0 = .ok (.aload_n 0, 1) := by decide +kernel
theorem d_T_readStatus_1 : decode b_T_readStatus 1 = .ok (.getfield 13, 3) := by decide +kernel
theorem d_T_readStatus_4 : decode b_T_readStatus 4 = .ok (.iconst 2, 1) := by decide +kernel
theorem d_T_readStatus_5 : decode b_T_readStatus 5 = .ok (.iaload, 1) := by decide +kernel
theorem d_T_readStatus_6 : decode b_T_readStatus 6 = .ok (.ifCond .le 7, 3) := by decide +kernel
theorem d_T_readStatus_9 : decode b_T_readStatus 9 = .ok (.iconst 1, 1) := by decide +kernel
theorem d_T_readStatus_10 : decode b_T_readStatus 10 = .ok (.goto 4, 3) := by decide +kernel
theorem d_T_readStatus_13 : decode b_T_readStatus 13 = .ok (.iconst 0, 1) := by decide +kernel
theorem d_T_readStatus_14 : decode b_T_readStatus 14 = .ok (.istore_n 1, 1) := by decide +kernel
theorem d_T_readStatus_15 : decode b_T_readStatus 15 = .ok (.iconst 0, 1) := by decide +kernel
theorem d_T_readStatus_16 : decode b_T_readStatus 16 = .ok (.istore_n 2, 1) := by decide +kernel
theorem d_T_readStatus_17 : decode b_T_readStatus 17 = .ok (.iconst 0, 1) := by decide +kernel
theorem d_T_readStatus_18 : decode b_T_readStatus 18 = .ok (.istore_n 3, 1) := by decide +kernel
theorem d_T_readStatus_19 : decode b_T_readStatus 19 = .ok (.iload_n 3, 1) := by decide +kernel
theorem d_T_readStatus_20 : decode b_T_readStatus 20 = .ok (.aload_n 0, 1) := by decide +kernel
theorem d_T_readStatus_21 : decode b_T_readStatus 21 = .ok (.getfield 13, 3) := by decide +kernel
theorem d_T_readStatus_24 : decode b_T_readStatus 24 = .ok (.iconst 2, 1) := by decide +kernel
theorem d_T_readStatus_25 : decode b_T_readStatus 25 = .ok (.iaload, 1) := by decide +kernel
theorem d_T_readStatus_26 : decode b_T_readStatus 26 = .ok (.if_icmp .ge 28, 3) := by decide +kernel
theorem d_T_readStatus_29 : decode b_T_readStatus 29 = .ok (.iload_n 2, 1) := by decide +kernel
theorem d_T_readStatus_30 : decode b_T_readStatus 30 = .ok (.ifCond .ne 12, 3) := by decide +kernel
theorem d_T_readStatus_33 : decode b_T_readStatus 33 = .ok (.aload_n 0, 1) := by decide +kernel
theorem d_T_readStatus_34 : decode b_T_readStatus 34 = .ok (.getfield 16, 3) := by decide +kernel
theorem d_T_readStatus_37 : decode b_T_readStatus 37 = .ok (.iload_n 3, 1) := by decide +kernel
theorem d_T_readStatus_38 : decode b_T_readStatus 38 = .ok (.iaload, 1) := by decide +kernel
theorem d_T_readStatus_39 : decode b_T_readStatus 39 = .ok (.ifCond .eq 7, 3) := by decide +kernel
theorem d_T_readStatus_42 : decode b_T_readStatus 42 = .ok (.iconst 1, 1) := by decide +kernel
theorem d_T_readStatus_43 : decode b_T_readStatus 43 = .ok (.goto 4, 3) := by decide +kernel
theorem d_T_readStatus_46 : decode b_T_readStatus 46 = .ok (.iconst 0, 1) := by decide +kernel
theorem d_T_readStatus_47 : decode b_T_readStatus 47 = .ok (.istore_n 2, 1) := by decide +kernel
theorem d_T_readStatus_48 : decode b_T_readStatus 48 = .ok (.iinc 3 1, 3) := by decide +kernel
theorem d_T_readStatus_51 : decode b_T_readStatus 51 = .ok (.goto (-32), 3) := by decide +kernel
theorem d_T_readStatus_54 : decode b_T_readStatus 54 = .ok (.iload_n 1, 1) := by decide +kernel
theorem d_T_readStatus_55 : decode b_T_readStatus 55 = .ok (.ifCond .eq 16, 3) := by decide +kernel
theorem d_T_readStatus_58 : decode b_T_readStatus 58 = .ok (.iconst 1, 1) := by decide +kernel
theorem d_T_readStatus_59 : decode b_T_readStatus 59 = .ok (.iconst 4, 1) := by decide +kernel
theorem d_T_readStatus_60 : decode b_T_readStatus 60 = .ok (.aload_n 0, 1) := by decide +kernel
theorem d_T_readStatus_61 : decode b_T_readStatus 61 = .ok (.getfield 16, 3) := by decide +kernel
theorem d_T_readStatus_64 : decode b_T_readStatus 64 = .ok (.iconst 0, 1) := by decide +kernel
theorem d_T_readStatus_65 : decode b_T_readStatus 65 = .ok (.iaload, 1) := by decide +kernel
theorem d_T_readStatus_66 : decode b_T_readStatus 66 = .ok (.imul, 1) := by decide +kernel
theorem d_T_readStatus_67 : decode b_T_readStatus 67 = .ok (.iadd, 1) := by decide +kernel
theorem d_T_readStatus_68 : decode b_T_readStatus 68 = .ok (.goto 4, 3) := by decide +kernel
theorem d_T_readStatus_71 : decode b_T_readStatus 71 = .ok (.iconst 0, 1) := by decide +kernel
theorem d_T_readStatus_72 : decode b_T_readStatus 72 = .ok (.aload_n 0, 1) := by decide +kernel
theorem d_T_readStatus_73 : decode b_T_readStatus 73 = .ok (.getfield 86, 3) := by decide +kernel
theorem d_T_readStatus_76 : decode b_T_readStatus 76 = .ok (.ifCond .eq 7, 3) := by decide +kernel
theorem d_T_readStatus_79 : decode b_T_readStatus 79 = .ok (.iconst 2, 1) := by decide +kernel
theorem d_T_readStatus_80 : decode b_T_readStatus 80 = .ok (.goto 4, 3) := by decide +kernel
theorem d_T_readStatus_83 : decode b_T_readStatus 83 = .ok (.iconst 0, 1) := by decide +kernel
theorem d_T_readStatus_84 : decode b_T_readStatus 84 = .ok (.iadd, 1) := by decide +kernel
theorem d_T_readStatus_85 : decode b_T_readStatus 85 = .ok (.aload_n 0, 1) := by decide +kernel
theorem d_T_readStatus_86 : decode b_T_readStatus 86 = .ok (.getfield 13, 3) := by decide +kernel
theorem d_T_readStatus_89 : decode b_T_readStatus 89 = .ok (.iconst 3, 1) := by decide +kernel
theorem d_T_readStatus_90 : decode b_T_readStatus 90 = .ok (.iaload, 1) := by decide +kernel
theorem d_T_readStatus_91 : decode b_T_readStatus 91 = .ok (.ifCond .ne 8, 3) := by decide +kernel
theorem d_T_readStatus_94 : decode b_T_readStatus 94 = .ok (.bipush 32, 2) := by decide +kernel
theorem d_T_readStatus_96 : decode b_T_readStatus 96 = .ok (.goto 4, 3) := by decide +kernel
theorem d_T_readStatus_99 : decode b_T_readStatus 99 = .ok (.iconst 0, 1) := by decide +kernel
theorem d_T_readStatus_100 : decode b_T_readStatus 100 = .ok (.iadd, 1) := by decide +kernel
theorem d_T_readStatus_101 : decode b_T_readStatus 101 = .ok (.aload_n 0, 1) := by decide +kernel
theorem d_T_readStatus_102 : decode b_T_readStatus 102 = .ok (.getfield 13, 3) := by decide +kernel
theorem d_T_readStatus_105 : decode b_T_readStatus 105 = .ok (.iconst 3, 1) := by decide +kernel
theorem d_T_readStatus_106 : decode b_T_readStatus 106 = .ok (.iaload, 1) := by decide +kernel
theorem d_T_readStatus_107 : decode b_T_readStatus 107 = .ok (.ifCond .ne 15, 3) := by decide +kernel
theorem d_T_readStatus_110 : decode b_T_readStatus 110 = .ok (.aload_n 0, 1) := by decide +kernel
theorem d_T_readStatus_111 : decode b_T_readStatus 111 = .ok (.getfield 57, 3) := by decide +kernel
theorem d_T_readStatus_114 : decode b_T_readStatus 114 = .ok (.ifCond .ne 8, 3) := by decide +kernel
theorem d_T_readStatus_117 : decode b_T_readStatus 117 = .ok (.bipush 64, 2) := by decide +kernel
theorem d_T_readStatus_119 : decode b_T_readStatus 119 = .ok (.goto 4, 3) := by decide +kernel
theorem d_T_readStatus_122 : decode b_T_readStatus 122 = .ok (.iconst 0, 1) := by decide +kernel
theorem d_T_readStatus_123 : decode b_T_readStatus 123 = .ok (.iadd, 1) := by decide +kernel
theorem d_T_readStatus_124 : decode b_T_readStatus 124 = .ok (.aload_n 0, 1) := by decide +kernel
theorem d_T_readStatus_125 : decode b_T_readStatus 125 = .ok (.getfield 29, 3) := by decide +kernel
theorem d_T_readStatus_128 : decode b_T_readStatus 128 = .ok (.ifCond .eq 13, 3) := by decide +kernel
theorem d_T_readStatus_131 : decode b_T_readStatus 131 = .ok (.iload_n 2, 1) := by decide +kernel
theorem d_T_readStatus_132 : decode b_T_readStatus 132 = .ok (.ifCond .eq 9, 3) := by decide +kernel
theorem d_T_readStatus_135 : decode b_T_readStatus 135 = .ok (.sipush 128, 3) := by decide +kernel
theorem d_T_readStatus_138 : decode b_T_readStatus 138 = .ok (.goto 4, 3) := by decide +kernel
theorem d_T_readStatus_141 : decode b_T_readStatus 141 = .ok (.iconst 0, 1) := by decide +kernel
theorem d_T_readStatus_142 : decode b_T_readStatus 142 = .ok (.iadd, 1) := by decide +kernel
theorem d_T_readStatus_143 : decode b_T_readStatus 143 = .ok (.istore_n 3, 1) := by decide +kernel
theorem d_T_readStatus_144 : decode b_T_readStatus 144 = .ok (.aload_n 0, 1) := by decide +kernel
theorem d_T_readStatus_145 : decode b_T_readStatus 145 = .ok (.iconst 0, 1) := by decide +kernel
theorem d_T_readStatus_146 : decode b_T_readStatus 146 = .ok (.putfield 86, 3) := by decide +kernel
theorem d_T_readStatus_149 : decode b_T_readStatus 149 = .ok (.aload_n 0, 1) := by decide +kernel
theorem d_T_readStatus_150 : decode b_T_readStatus 150 = .ok (.getfield 16, 3) := by decide +kernel
theorem d_T_readStatus_153 : decode b_T_readStatus 153 = .ok (.iconst 0, 1) := by decide +kernel
theorem d_T_readStatus_154 : decode b_T_readStatus 154 = .ok (.iload_n 1, 1) := by decide +kernel
theorem d_T_readStatus_155 : decode b_T_readStatus 155 = .ok (.ifCond .eq 7, 3) := by decide +kernel
theorem d_T_readStatus_158 : decode b_T_readStatus 158 = .ok (.iconst 0, 1) := by decide +kernel
theorem d_T_readStatus_159 : decode b_T_readStatus 159 = .ok (.goto 9, 3) := by decide +kernel
theorem d_T_readStatus_162 : decode b_T_readStatus 162 = .ok (.aload_n 0, 1) := by decide +kernel
theorem d_T_readStatus_163 : decode b_T_readStatus 163 = .ok (.getfield 16, 3) := by decide +kernel
theorem d_T_readStatus_166 : decode b_T_readStatus 166 = .ok (.iconst 0, 1) := by decide +kernel
theorem d_T_readStatus_167 : decode b_T_readStatus 167 = .ok (.iaload, 1) := by decide +kernel
theorem d_T_readStatus_168 : decode b_T_readStatus 168 = .ok (.iastore, 1) := by decide +kernel
theorem d_T_readStatus_169 : decode b_T_readStatus 169 = .ok (.iload_n 3, 1) := by decide +kernel
theorem d_T_readStatus_170 : decode b_T_readStatus 170 = .ok (.ireturn, 1) := by decide +kernel
theorem d_T_readChanges_0 : decode b_T_readChanges 0 = .ok (.aload_n 0, 1) := by decide +kernel
theorem d_T_readChanges_1 : decode b_T_readChanges 1 = .ok (.getfield 54, 3) := by decide +kernel
theorem d_T_readChanges_4 : decode b_T_readChanges 4 = .ok (.bipush 16, 2) := by decide +kernel
theorem d_T_readChanges_6 : decode b_T_readChanges 6 = .ok (.aload_n 0, 1) := by decide +kernel
theorem d_T_readChanges_7 : decode b_T_readChanges 7 = .ok (.invokevirtual 50, 3) := by decide +kernel
theorem d_T_readChanges_10 : decode b_T_readChanges 10 = .ok (.imul, 1) := by decide +kernel
theorem d_T_readChanges_11 : decode b_T_readChanges 11 = .ok (.iadd, 1) := by decide +kernel
theorem d_T_readChanges_12 : decode b_T_readChanges 12 = .ok (.istore_n 1, 1) := by decide +kernel
theorem d_T_readChanges_13 : decode b_T_readChanges 13 = .ok (.aload_n 0, 1) := by decide +kernel
theorem d_T_readChanges_14 : decode b_T_readChanges 14 = .ok (.iconst 0, 1) := by decide +kernel
theorem d_T_readChanges_15 : decode b_T_readChanges 15 = .ok (.putfield 54, 3) := by decide +kernel
theorem d_T_readChanges_18 : decode b_T_readChanges 18 = .ok (.iload_n 1, 1) := by decide +kernel
theorem d_T_readChanges_19 : decode b_T_readChanges 19 = .ok (.ireturn, 1) := by decide +kernel
theorem d_T_read_0 : decode b_T_read 0 = .ok (.aload_n 0, 1) := by decide +kernel
theorem d_T_read_1 : decode b_T_read 1 = .ok (.aload_n 0, 1) := by decide +kernel
theorem d_T_read_2 : decode b_T_read 2 = .ok (.getfield 92, 3) := by decide +kernel
theorem d_T_read_5 : decode b_T_read 5 = .ok (.bipush 7, 2) := by decide +kernel
theorem d_T_read_7 : decode b_T_read 7 = .ok (.invokevirtual 39, 3) := by decide +kernel
theorem d_T_read_10 : decode b_T_read 10 = .ok (.istore_n 2, 1) := by decide +kernel
theorem d_T_read_11 : decode b_T_read 11 = .ok (.iload_n 1, 1) := by decide +kernel
theorem d_T_read_12 : decode b_T_read 12 = .ok (.tableswitch 123 0 7 #[48, 77, 93, 98, 103, 108, 113, 118], 48) := by decide +kernel
theorem d_T_read_60 : decode b_T_read 60 = .ok (.iload_n 2, 1) := by decide +kernel
theorem d_T_read_61 : decode b_T_read 61 = .ok (.ifCond .eq 10, 3) := by decide +kernel
theorem d_T_read_64 : decode b_T_read 64 = .ok (.aload_n 0, 1) := by decide +kernel
theorem d_T_read_65 : decode b_T_read 65 = .ok (.getfield 23, 3) := by decide +kernel
theorem d_T_read_68 : decode b_T_read 68 = .ok (.goto 20, 3) := by decide +kernel
theorem d_T_read_71 : decode b_T_read 71 = .ok (.aload_n 0, 1) := by decide +kernel
theorem d_T_read_72 : decode b_T_read 72 = .ok (.getfield 13, 3) := by decide +kernel
theorem d_T_read_75 : decode b_T_read 75 = .ok (.iconst 2, 1) := by decide +kernel
theorem d_T_read_76 : decode b_T_read 76 = .ok (.iaload, 1) := by decide +kernel
theorem d_T_read_77 : decode b_T_read 77 = .ok (.ifCond .le 10, 3) := by decide +kernel
theorem d_T_read_80 : decode b_T_read 80 = .ok (.aload_n 0, 1) := by decide +kernel
theorem d_T_read_81 : decode b_T_read 81 = .ok (.invokevirtual 114, 3) := by decide +kernel
theorem d_T_read_84 : decode b_T_read 84 = .ok (.goto 4, 3) := by decide +kernel
theorem d_T_read_87 : decode b_T_read 87 = .ok (.iconst 0, 1) := by decide +kernel
theorem d_T_read_88 : decode b_T_read 88 = .ok (.ireturn, 1) := by decide +kernel
theorem d_T_read_89 : decode b_T_read 89 = .ok (.iload_n 2, 1) := by decide +kernel
theorem d_T_read_90 : decode b_T_read 90 = .ok (.ifCond .eq 10, 3) := by decide +kernel
theorem d_T_read_93 : decode b_T_read 93 = .ok (.aload_n 0, 1) := by decide +kernel
theorem d_T_read_94 : decode b_T_read 94 = .ok (.getfield 33, 3) := by decide +kernel
theorem d_T_read_97 : decode b_T_read 97 = .ok (.goto 7, 3) := by decide +kernel
theorem d_T_read_100 : decode b_T_read 100 = .ok (.aload_n 0, 1) := by decide +kernel
theorem d_T_read_101 : decode b_T_read 101 = .ok (.getfield 108, 3) := by decide +kernel
theorem d_T_read_104 : decode b_T_read 104 = .ok (.ireturn, 1) := by decide +kernel
theorem d_T_read_105 : decode b_T_read 105 = .ok (.aload_n 0, 1) := by decide +kernel
theorem d_T_read_106 : decode b_T_read 106 = .ok (.invokevirtual 117, 3) := by decide +kernel
theorem d_T_read_109 : decode b_T_read 109 = .ok (.ireturn, 1) := by decide +kernel
theorem d_T_read_110 : decode b_T_read 110 = .ok (.aload_n 0, 1) := by decide +kernel
theorem d_T_read_111 : decode b_T_read 111 = .ok (.getfield 92, 3) := by decide +kernel
theorem d_T_read_114 : decode b_T_read 114 = .ok (.ireturn, 1) := by decide +kernel
theorem d_T_read_115 : decode b_T_read 115 = .ok (.aload_n 0, 1) := by decide +kernel
theorem d_T_read_116 : decode b_T_read 116 = .ok (.getfield 36, 3) := by decide +kernel
theorem d_T_read_119 : decode b_T_read 119 = .ok (.ireturn, 1) := by decide +kernel
theorem d_T_read_120 : decode b_T_read 120 = .ok (.aload_n 0, 1) := by decide +kernel
theorem d_T_read_121 : decode b_T_read 121 = .ok (.invokevirtual 120, 3) := by decide +kernel
theorem d_T_read_124 : decode b_T_read 124 = .ok (.ireturn, 1) := by decide +kernel
theorem d_T_read_125 : decode b_T_read 125 = .ok (.aload_n 0, 1) := by decide +kernel
theorem d_T_read_126 : decode b_T_read 126 = .ok (.invokevirtual 123, 3) := by decide +kernel
theorem d_T_read_129 : decode b_T_read 129 = .ok (.ireturn, 1) := by decide +kernel
theorem d_T_read_130 : decode b_T_read 130 = .ok (.aload_n 0, 1) := by decide +kernel
theorem d_T_read_131 : decode b_T_read 131 = .ok (.getfield 126, 3) := by decide +kernel
theorem d_T_read_134 : decode b_T_read 134 = .ok (.ireturn, 1) := by decide +kernel
theorem d_T_read_135 : decode b_T_read 135 = .ok (.iconst (-1), 1) := by decide +kernel
theorem d_T_read_136 : decode b_T_read 136 = .ok (.ireturn, 1) := by decide +kernel
theorem d_T_writeData_0 : decode b_T_writeData 0 = .ok (.aload_n 0, 1) := by decide +kernel
theorem d_T_writeData_1 : decode b_T_writeData 1 = .ok (.iconst 0, 1) := by decide +kernel
theorem d_T_writeData_2 : decode b_T_writeData 2 = .ok (.putfield 73, 3) := by decide +kernel
theorem d_T_writeData_5 : decode b_T_writeData 5 = .ok (.aload_n 0, 1) := by decide +kernel
theorem d_T_writeData_6 : decode b_T_writeData 6 = .ok (.getfield 13, 3) := by decide +kernel
theorem d_T_writeData_9 : decode b_T_writeData 9 = .ok (.iconst 3, 1) := by decide +kernel
theorem d_T_writeData_10 : decode b_T_writeData 10 = .ok (.iaload, 1) := by decide +kernel
theorem d_T_writeData_11 : decode b_T_writeData 11 = .ok (.aload_n 0, 1) := by decide +kernel
theorem d_T_writeData_12 : decode b_T_writeData 12 = .ok (.invokevirtual 79, 3) := by decide +kernel
theorem d_T_writeData_15 : decode b_T_writeData 15 = .ok (.if_icmp .ge 9, 3) := by decide +kernel
theorem d_T_writeData_18 : decode b_T_writeData 18 = .ok (.aload_n 0, 1) := by decide +kernel
theorem d_T_writeData_19 : decode b_T_writeData 19 = .ok (.iconst 3, 1) := by decide +kernel
theorem d_T_writeData_20 : decode b_T_writeData 20 = .ok (.iload_n 1, 1) := by decide +kernel
theorem d_T_writeData_21 : decode b_T_writeData 21 = .ok (.invokevirtual 82, 3) := by decide +kernel
theorem d_T_writeData_24 : decode b_T_writeData 24 = .ok (.aload_n 0, 1) := by decide +kernel
theorem d_T_writeData_25 : decode b_T_writeData 25 = .ok (.iconst 0, 1) := by decide +kernel
theorem d_T_writeData_26 : decode b_T_writeData 26 = .ok (.invokevirtual 101, 3) := by decide +kernel
theorem d_T_writeData_29 : decode b_T_writeData 29 = .ok (.return_, 1) := by decide +kernel
theorem d_T_writeEnabled_0 : decode b_T_writeEnabled 0 = .ok (.aload_n 0, 1) := by decide +kernel
theorem d_T_writeEnabled_1 : decode b_T_writeEnabled 1 = .ok (.aload_n 0, 1) := by decide +kernel
theorem d_T_writeEnabled_2 : decode b_T_writeEnabled 2 = .ok (.getfield 108, 3) := by decide +kernel
theorem d_T_writeEnabled_5 : decode b_T_writeEnabled 5 = .ok (.iconst 1, 1) := by decide +kernel
theorem d_T_writeEnabled_6 : decode b_T_writeEnabled 6 = .ok (.invokevirtual 39, 3) := by decide +kernel
theorem d_T_writeEnabled_9 : decode b_T_writeEnabled 9 = .ok (.istore_n 2, 1) := by decide +kernel
theorem d_T_writeEnabled_10 : decode b_T_writeEnabled 10 = .ok (.aload_n 0, 1) := by decide +kernel
theorem d_T_writeEnabled_11 : decode b_T_writeEnabled 11 = .ok (.iload_n 1, 1) := by decide +kernel
theorem d_T_writeEnabled_12 : decode b_T_writeEnabled 12 = .ok (.bipush 15, 2) := by decide +kernel
theorem d_T_writeEnabled_14 : decode b_T_writeEnabled 14 = .ok (.iand, 1) := by decide +kernel
theorem d_T_writeEnabled_15 : decode b_T_writeEnabled 15 = .ok (.putfield 108, 3) := by decide +kernel
theorem d_T_writeEnabled_18 : decode b_T_writeEnabled 18 = .ok (.aload_n 0, 1) := by decide +kernel
theorem d_T_writeEnabled_19 : decode b_T_writeEnabled 19 = .ok (.aload_n 0, 1) := by decide +kernel
theorem d_T_writeEnabled_20 : decode b_T_writeEnabled 20 = .ok (.getfield 73, 3) := by decide +kernel
theorem d_T_writeEnabled_23 : decode b_T_writeEnabled 23 = .ok (.ifCond .ne 28, 3) := by decide +kernel
theorem d_T_writeEnabled_26 : decode b_T_writeEnabled 26 = .ok (.iload_n 2, 1) := by decide +kernel
theorem d_T_writeEnabled_27 : decode b_T_writeEnabled 27 = .ok (.ifCond .ne 28, 3) := by decide +kernel
theorem d_T_writeEnabled_30 : decode b_T_writeEnabled 30 = .ok (.aload_n 0, 1) := by decide +kernel
theorem d_T_writeEnabled_31 : decode b_T_writeEnabled 31 = .ok (.aload_n 0, 1) := by decide +kernel
theorem d_T_writeEnabled_32 : decode b_T_writeEnabled 32 = .ok (.getfield 108, 3) := by decide +kernel
theorem d_T_writeEnabled_35 : decode b_T_writeEnabled 35 = .ok (.iconst 1, 1) := by decide +kernel
theorem d_T_writeEnabled_36 : decode b_T_writeEnabled 36 = .ok (.invokevirtual 39, 3) := by decide +kernel
theorem d_T_writeEnabled_39 : decode b_T_writeEnabled 39 = .ok (.ifCond .eq 16, 3) := by decide +kernel
theorem d_T_writeEnabled_42 : decode b_T_writeEnabled 42 = .ok (.aload_n 0, 1) := by decide +kernel
theorem d_T_writeEnabled_43 : decode b_T_writeEnabled 43 = .ok (.getfield 13, 3) := by decide +kernel
theorem d_T_writeEnabled_46 : decode b_T_writeEnabled 46 = .ok (.iconst 3, 1) := by decide +kernel
theorem d_T_writeEnabled_47 : decode b_T_writeEnabled 47 = .ok (.iaload, 1) := by decide +kernel
theorem d_T_writeEnabled_48 : decode b_T_writeEnabled 48 = .ok (.ifCond .ne 7, 3) := by decide +kernel
theorem d_T_writeEnabled_51 : decode b_T_writeEnabled 51 = .ok (.iconst 1, 1) := by decide +kernel
theorem d_T_writeEnabled_52 : decode b_T_writeEnabled 52 = .ok (.goto 4, 3) := by decide +kernel
theorem d_T_writeEnabled_55 : decode b_T_writeEnabled 55 = .ok (.iconst 0, 1) := by decide +kernel
theorem d_T_writeEnabled_56 : decode b_T_writeEnabled 56 = .ok (.putfield 73, 3) := by decide +kernel
theorem d_T_writeEnabled_59 : decode b_T_writeEnabled 59 = .ok (.return_, 1) := by decide +kernel
theorem d_T_writeQueues_0 : decode b_T_writeQueues 0 = .ok (.aload_n 0, 1) := by decide +kernel
theorem d_T_writeQueues_1 : decode b_T_writeQueues 1 = .ok (.getfield 13, 3) := by decide +kernel
theorem d_T_writeQueues_4 : decode b_T_writeQueues 4 = .ok (.iconst 3, 1) := by decide +kernel
theorem d_T_writeQueues_5 : decode b_T_writeQueues 5 = .ok (.iaload, 1) := by decide +kernel
theorem d_T_writeQueues_6 : decode b_T_writeQueues 6 = .ok (.ifCond .le 7, 3) := by decide +kernel
theorem d_T_writeQueues_9 : decode b_T_writeQueues 9 = .ok (.iconst 1, 1) := by decide +kernel
theorem d_T_writeQueues_10 : decode b_T_writeQueues 10 = .ok (.goto 4, 3) := by decide +kernel
theorem d_T_writeQueues_13 : decode b_T_writeQueues 13 = .ok (.iconst 0, 1) := by decide +kernel
theorem d_T_writeQueues_14 : decode b_T_writeQueues 14 = .ok (.istore_n 2, 1) := by decide +kernel
theorem d_T_writeQueues_15 : decode b_T_writeQueues 15 = .ok (.aload_n 0, 1) := by decide +kernel
theorem d_T_writeQueues_16 : decode b_T_writeQueues 16 = .ok (.getfield 29, 3) := by decide +kernel
theorem d_T_writeQueues_19 : decode b_T_writeQueues 19 = .ok (.aload_n 0, 1) := by decide +kernel
theorem d_T_writeQueues_20 : decode b_T_writeQueues 20 = .ok (.iload_n 1, 1) := by decide +kernel
theorem d_T_writeQueues_21 : decode b_T_writeQueues 21 = .ok (.iconst 0, 1) := by decide +kernel
theorem d_T_writeQueues_22 : decode b_T_writeQueues 22 = .ok (.invokevirtual 39, 3) := by decide +kernel
theorem d_T_writeQueues_25 : decode b_T_writeQueues 25 = .ok (.if_icmp .eq 7, 3) := by decide +kernel
theorem d_T_writeQueues_28 : decode b_T_writeQueues 28 = .ok (.iconst 1, 1) := by decide +kernel
theorem d_T_writeQueues_29 : decode b_T_writeQueues 29 = .ok (.goto 4, 3) := by decide +kernel
theorem d_T_writeQueues_32 : decode b_T_writeQueues 32 = .ok (.iconst 0, 1) := by decide +kernel
theorem d_T_writeQueues_33 : decode b_T_writeQueues 33 = .ok (.istore_n 3, 1) := by decide +kernel
theorem d_T_writeQueues_34 : decode b_T_writeQueues 34 = .ok (.aload_n 0, 1) := by decide +kernel
theorem d_T_writeQueues_35 : decode b_T_writeQueues 35 = .ok (.aload_n 0, 1) := by decide +kernel
theorem d_T_writeQueues_36 : decode b_T_writeQueues 36 = .ok (.iload_n 1, 1) := by decide +kernel
theorem d_T_writeQueues_37 : decode b_T_writeQueues 37 = .ok (.iconst 0, 1) := by decide +kernel
theorem d_T_writeQueues_38 : decode b_T_writeQueues 38 = .ok (.invokevirtual 39, 3) := by decide +kernel
theorem d_T_writeQueues_41 : decode b_T_writeQueues 41 = .ok (.putfield 29, 3) := by decide +kernel
theorem d_T_writeQueues_44 : decode b_T_writeQueues 44 = .ok (.iload_n 3, 1) := by decide +kernel
theorem d_T_writeQueues_45 : decode b_T_writeQueues 45 = .ok (.ifCond .ne 19, 3) := by decide +kernel
theorem d_T_writeQueues_48 : decode b_T_writeQueues 48 = .ok (.aload_n 0, 1) := by decide +kernel
theorem d_T_writeQueues_49 : decode b_T_writeQueues 49 = .ok (.getfield 29, 3) := by decide +kernel
theorem d_T_writeQueues_52 : decode b_T_writeQueues 52 = .ok (.ifCond .eq 19, 3) := by decide +kernel
theorem d_T_writeQueues_55 : decode b_T_writeQueues 55 = .ok (.aload_n 0, 1) := by decide +kernel
theorem d_T_writeQueues_56 : decode b_T_writeQueues 56 = .ok (.iload_n 1, 1) := by decide +kernel
theorem d_T_writeQueues_57 : decode b_T_writeQueues 57 = .ok (.iconst 1, 1) := by decide +kernel
theorem d_T_writeQueues_58 : decode b_T_writeQueues 58 = .ok (.invokevirtual 39, 3) := by decide +kernel
theorem d_T_writeQueues_61 : decode b_T_writeQueues 61 = .ok (.ifCond .eq 10, 3) := by decide +kernel
theorem d_T_writeQueues_64 : decode b_T_writeQueues 64 = .ok (.aload_n 0, 1) := by decide +kernel
theorem d_T_writeQueues_65 : decode b_T_writeQueues 65 = .ok (.getfield 13, 3) := by decide +kernel
theorem d_T_writeQueues_68 : decode b_T_writeQueues 68 = .ok (.iconst 2, 1) := by decide +kernel
theorem d_T_writeQueues_69 : decode b_T_writeQueues 69 = .ok (.iconst 0, 1) := by decide +kernel
theorem d_T_writeQueues_70 : decode b_T_writeQueues 70 = .ok (.iastore, 1) := by decide +kernel
theorem d_T_writeQueues_71 : decode b_T_writeQueues 71 = .ok (.iload_n 3, 1) := by decide +kernel
theorem d_T_writeQueues_72 : decode b_T_writeQueues 72 = .ok (.ifCond .ne 19, 3) := by decide +kernel
theorem d_T_writeQueues_75 : decode b_T_writeQueues 75 = .ok (.aload_n 0, 1) := by decide +kernel
theorem d_T_writeQueues_76 : decode b_T_writeQueues 76 = .ok (.getfield 29, 3) := by decide +kernel
theorem d_T_writeQueues_79 : decode b_T_writeQueues 79 = .ok (.ifCond .eq 19, 3) := by decide +kernel
theorem d_T_writeQueues_82 : decode b_T_writeQueues 82 = .ok (.aload_n 0, 1) := by decide +kernel
theorem d_T_writeQueues_83 : decode b_T_writeQueues 83 = .ok (.iload_n 1, 1) := by decide +kernel
theorem d_T_writeQueues_84 : decode b_T_writeQueues 84 = .ok (.iconst 2, 1) := by decide +kernel
theorem d_T_writeQueues_85 : decode b_T_writeQueues 85 = .ok (.invokevirtual 39, 3) := by decide +kernel
theorem d_T_writeQueues_88 : decode b_T_writeQueues 88 = .ok (.ifCond .eq 10, 3) := by decide +kernel
theorem d_T_writeQueues_91 : decode b_T_writeQueues 91 = .ok (.aload_n 0, 1) := by decide +kernel
theorem d_T_writeQueues_92 : decode b_T_writeQueues 92 = .ok (.getfield 13, 3) := by decide +kernel
theorem d_T_writeQueues_95 : decode b_T_writeQueues 95 = .ok (.iconst 3, 1) := by decide +kernel
theorem d_T_writeQueues_96 : decode b_T_writeQueues 96 = .ok (.iconst 0, 1) := by decide +kernel
theorem d_T_writeQueues_97 : decode b_T_writeQueues 97 = .ok (.iastore, 1) := by decide +kernel
theorem d_T_writeQueues_98 : decode b_T_writeQueues 98 = .ok (.iload_n 1, 1) := by decide +kernel
theorem d_T_writeQueues_99 : decode b_T_writeQueues 99 = .ok (.bipush 6, 2) := by decide +kernel
theorem d_T_writeQueues_101 : decode b_T_writeQueues 101 = .ok (.ishr, 1) := by decide +kernel
theorem d_T_writeQueues_102 : decode b_T_writeQueues 102 = .ok (.istore 4, 2) := by decide +kernel
theorem d_T_writeQueues_104 : decode b_T_writeQueues 104 = .ok (.iload 4, 2) := by decide +kernel
theorem d_T_writeQueues_106 : decode b_T_writeQueues 106 = .ok (.ifCond .ne 7, 3) := by decide +kernel
theorem d_T_writeQueues_109 : decode b_T_writeQueues 109 = .ok (.iconst 1, 1) := by decide +kernel
theorem d_T_writeQueues_110 : decode b_T_writeQueues 110 = .ok (.goto 26, 3) := by decide +kernel
theorem d_T_writeQueues_113 : decode b_T_writeQueues 113 = .ok (.iload 4, 2) := by decide +kernel
theorem d_T_writeQueues_115 : decode b_T_writeQueues 115 = .ok (.iconst 1, 1) := by decide +kernel
theorem d_T_writeQueues_116 : decode b_T_writeQueues 116 = .ok (.if_icmp .ne 7, 3) := by decide +kernel
theorem d_T_writeQueues_119 : decode b_T_writeQueues 119 = .ok (.iconst 4, 1) := by decide +kernel
theorem d_T_writeQueues_120 : decode b_T_writeQueues 120 = .ok (.goto 16, 3) := by decide +kernel
theorem d_T_writeQueues_123 : decode b_T_writeQueues 123 = .ok (.iload 4, 2) := by decide +kernel
theorem d_T_writeQueues_125 : decode b_T_writeQueues 125 = .ok (.iconst 2, 1) := by decide +kernel
theorem d_T_writeQueues_126 : decode b_T_writeQueues 126 = .ok (.if_icmp .ne 8, 3) := by decide +kernel
theorem d_T_writeQueues_129 : decode b_T_writeQueues 129 = .ok (.bipush 8, 2) := by decide +kernel
theorem d_T_writeQueues_131 : decode b_T_writeQueues 131 = .ok (.goto 5, 3) := by decide +kernel
theorem d_T_writeQueues_134 : decode b_T_writeQueues 134 = .ok (.bipush 14, 2) := by decide +kernel
theorem d_T_writeQueues_136 : decode b_T_writeQueues 136 = .ok (.istore 5, 2) := by decide +kernel
theorem d_T_writeQueues_138 : decode b_T_writeQueues 138 = .ok (.aload_n 0, 1) := by decide +kernel
theorem d_T_writeQueues_139 : decode b_T_writeQueues 139 = .ok (.aload_n 0, 1) := by decide +kernel
theorem d_T_writeQueues_140 : decode b_T_writeQueues 140 = .ok (.getfield 29, 3) := by decide +kernel
theorem d_T_writeQueues_143 : decode b_T_writeQueues 143 = .ok (.ifCond .eq 8, 3) := by decide +kernel
theorem d_T_writeQueues_146 : decode b_T_writeQueues 146 = .ok (.iload 5, 2) := by decide +kernel
theorem d_T_writeQueues_148 : decode b_T_writeQueues 148 = .ok (.goto 7, 3) := by decide +kernel
theorem d_T_writeQueues_151 : decode b_T_writeQueues 151 = .ok (.aload_n 0, 1) := by decide +kernel
theorem d_T_writeQueues_152 : decode b_T_writeQueues 152 = .ok (.getfield 19, 3) := by decide +kernel
theorem d_T_writeQueues_155 : decode b_T_writeQueues 155 = .ok (.putfield 19, 3) := by decide +kernel
theorem d_T_writeQueues_158 : decode b_T_writeQueues 158 = .ok (.aload_n 0, 1) := by decide +kernel
theorem d_T_writeQueues_159 : decode b_T_writeQueues 159 = .ok (.aload_n 0, 1) := by decide +kernel
theorem d_T_writeQueues_160 : decode b_T_writeQueues 160 = .ok (.getfield 73, 3) := by decide +kernel
theorem d_T_writeQueues_163 : decode b_T_writeQueues 163 = .ok (.ifCond .ne 16, 3) := by decide +kernel
theorem d_T_writeQueues_166 : decode b_T_writeQueues 166 = .ok (.iload_n 2, 1) := by decide +kernel
theorem d_T_writeQueues_167 : decode b_T_writeQueues 167 = .ok (.ifCond .eq 16, 3) := by decide +kernel
theorem d_T_writeQueues_170 : decode b_T_writeQueues 170 = .ok (.aload_n 0, 1) := by decide +kernel
theorem d_T_writeQueues_171 : decode b_T_writeQueues 171 = .ok (.getfield 13, 3) := by decide +kernel
theorem d_T_writeQueues_174 : decode b_T_writeQueues 174 = .ok (.iconst 3, 1) := by decide +kernel
theorem d_T_writeQueues_175 : decode b_T_writeQueues 175 = .ok (.iaload, 1) := by decide +kernel
theorem d_T_writeQueues_176 : decode b_T_writeQueues 176 = .ok (.ifCond .ne 7, 3) := by decide +kernel
theorem d_T_writeQueues_179 : decode b_T_writeQueues 179 = .ok (.iconst 1, 1) := by decide +kernel
theorem d_T_writeQueues_180 : decode b_T_writeQueues 180 = .ok (.goto 4, 3) := by decide +kernel
theorem d_T_writeQueues_183 : decode b_T_writeQueues 183 = .ok (.iconst 0, 1) := by decide +kernel
theorem d_T_writeQueues_184 : decode b_T_writeQueues 184 = .ok (.putfield 73, 3) := by decide +kernel
theorem d_T_writeQueues_187 : decode b_T_writeQueues 187 = .ok (.return_, 1) := by decide +kernel
theorem d_T_write_0 : decode b_T_write 0 = .ok (.iload_n 2, 1) := by decide +kernel
theorem d_T_write_1 : decode b_T_write 1 = .ok (.sipush 255, 3) := by decide +kernel
theorem d_T_write_4 : decode b_T_write 4 = .ok (.iand, 1) := by decide +kernel
theorem d_T_write_5 : decode b_T_write 5 = .ok (.istore_n 3, 1) := by decide +kernel
theorem d_T_write_6 : decode b_T_write 6 = .ok (.aload_n 0, 1) := by decide +kernel
theorem d_T_write_7 : decode b_T_write 7 = .ok (.aload_n 0, 1) := by decide +kernel
theorem d_T_write_8 : decode b_T_write 8 = .ok (.getfield 92, 3) := by decide +kernel
theorem d_T_write_11 : decode b_T_write 11 = .ok (.bipush 7, 2) := by decide +kernel
theorem d_T_write_13 : decode b_T_write 13 = .ok (.invokevirtual 39, 3) := by decide +kernel
theorem d_T_write_16 : decode b_T_write 16 = .ok (.istore 4, 2) := by decide +kernel
theorem d_T_write_18 : decode b_T_write 18 = .ok (.aload_n 0, 1) := by decide +kernel
theorem d_T_write_19 : decode b_T_write 19 = .ok (.invokevirtual 50, 3) := by decide +kernel
theorem d_T_write_22 : decode b_T_write 22 = .ok (.istore 5, 2) := by decide +kernel
theorem d_T_write_24 : decode b_T_write 24 = .ok (.iload_n 1, 1) := by decide +kernel
theorem d_T_write_25 : decode b_T_write 25 = .ok (.ifCond .lt 9, 3) := by decide +kernel
theorem d_T_write_28 : decode b_T_write 28 = .ok (.iload_n 1, 1) := by decide +kernel
theorem d_T_write_29 : decode b_T_write 29 = .ok (.bipush 7, 2) := by decide +kernel
theorem d_T_write_31 : decode b_T_write 31 = .ok (.if_icmp .le 5, 3) := by decide +kernel
theorem d_T_write_34 : decode b_T_write 34 = .ok (.iconst 0, 1) := by decide +kernel
theorem d_T_write_35 : decode b_T_write 35 = .ok (.ireturn, 1) := by decide +kernel
theorem d_T_write_36 : decode b_T_write 36 = .ok (.iload_n 1, 1) := by decide +kernel
theorem d_T_write_37 : decode b_T_write 37 = .ok (.ifCond .ne 16, 3) := by decide +kernel
theorem d_T_write_40 : decode b_T_write 40 = .ok (.iload 4, 2) := by decide +kernel
theorem d_T_write_42 : decode b_T_write 42 = .ok (.ifCond .eq 11, 3) := by decide +kernel
theorem d_T_write_45 : decode b_T_write 45 = .ok (.aload_n 0, 1) := by decide +kernel
theorem d_T_write_46 : decode b_T_write 46 = .ok (.iload_n 3, 1) := by decide +kernel
theorem d_T_write_47 : decode b_T_write 47 = .ok (.putfield 23, 3) := by decide +kernel
theorem d_T_write_50 : decode b_T_write 50 = .ok (.goto 56, 3) := by decide +kernel
theorem d_T_write_53 : decode b_T_write 53 = .ok (.iload_n 1, 1) := by decide +kernel
theorem d_T_write_54 : decode b_T_write 54 = .ok (.ifCond .ne 11, 3) := by decide +kernel
theorem d_T_write_57 : decode b_T_write 57 = .ok (.aload_n 0, 1) := by decide +kernel
theorem d_T_write_58 : decode b_T_write 58 = .ok (.iload_n 3, 1) := by decide +kernel
theorem d_T_write_59 : decode b_T_write 59 = .ok (.invokevirtual 129, 3) := by decide +kernel
theorem d_T_write_62 : decode b_T_write 62 = .ok (.goto 44, 3) := by decide +kernel
theorem d_T_write_65 : decode b_T_write 65 = .ok (.iload_n 1, 1) := by decide +kernel
theorem d_T_write_66 : decode b_T_write 66 = .ok (.iconst 1, 1) := by decide +kernel
theorem d_T_write_67 : decode b_T_write 67 = .ok (.if_icmp .ne 16, 3) := by decide +kernel
theorem d_T_write_70 : decode b_T_write 70 = .ok (.iload 4, 2) := by decide +kernel
theorem d_T_write_72 : decode b_T_write 72 = .ok (.ifCond .eq 11, 3) := by decide +kernel
theorem d_T_write_75 : decode b_T_write 75 = .ok (.aload_n 0, 1) := by decide +kernel
theorem d_T_write_76 : decode b_T_write 76 = .ok (.iload_n 3, 1) := by decide +kernel
theorem d_T_write_77 : decode b_T_write 77 = .ok (.putfield 33, 3) := by decide +kernel
theorem d_T_write_80 : decode b_T_write 80 = .ok (.goto 26, 3) := by decide +kernel
theorem d_T_write_83 : decode b_T_write 83 = .ok (.iload_n 1, 1) := by decide +kernel
theorem d_T_write_84 : decode b_T_write 84 = .ok (.iconst 1, 1) := by decide +kernel
theorem d_T_write_85 : decode b_T_write 85 = .ok (.if_icmp .ne 11, 3) := by decide +kernel
theorem d_T_write_88 : decode b_T_write 88 = .ok (.aload_n 0, 1) := by decide +kernel
theorem d_T_write_89 : decode b_T_write 89 = .ok (.iload_n 3, 1) := by decide +kernel
theorem d_T_write_90 : decode b_T_write 90 = .ok (.invokevirtual 132, 3) := by decide +kernel
theorem d_T_write_93 : decode b_T_write 93 = .ok (.goto 13, 3) := by decide +kernel
theorem d_T_write_96 : decode b_T_write 96 = .ok (.iload_n 1, 1) := by decide +kernel
theorem d_T_write_97 : decode b_T_write 97 = .ok (.iconst 2, 1) := by decide +kernel
theorem d_T_write_98 : decode b_T_write 98 = .ok (.if_icmp .ne 8, 3) := by decide +kernel
theorem d_T_write_101 : decode b_T_write 101 = .ok (.aload_n 0, 1) := by decide +kernel
theorem d_T_write_102 : decode b_T_write 102 = .ok (.iload_n 3, 1) := by decide +kernel
theorem d_T_write_103 : decode b_T_write 103 = .ok (.invokevirtual 135, 3) := by decide +kernel
theorem d_T_write_106 : decode b_T_write 106 = .ok (.aload_n 0, 1) := by decide +kernel
theorem d_T_write_107 : decode b_T_write 107 = .ok (.iload_n 1, 1) := by decide +kernel
theorem d_T_write_108 : decode b_T_write 108 = .ok (.iconst 3, 1) := by decide +kernel
theorem d_T_write_109 : decode b_T_write 109 = .ok (.if_icmp .ne 7, 3) := by decide +kernel
theorem d_T_write_112 : decode b_T_write 112 = .ok (.iload_n 3, 1) := by decide +kernel
theorem d_T_write_113 : decode b_T_write 113 = .ok (.goto 7, 3) := by decide +kernel
theorem d_T_write_116 : decode b_T_write 116 = .ok (.aload_n 0, 1) := by decide +kernel
theorem d_T_write_117 : decode b_T_write 117 = .ok (.getfield 92, 3) := by decide +kernel
theorem d_T_write_120 : decode b_T_write 120 = .ok (.putfield 92, 3) := by decide +kernel
theorem d_T_write_123 : decode b_T_write 123 = .ok (.aload_n 0, 1) := by decide +kernel
theorem d_T_write_124 : decode b_T_write 124 = .ok (.iload_n 1, 1) := by decide +kernel
theorem d_T_write_125 : decode b_T_write 125 = .ok (.iconst 4, 1) := by decide +kernel
theorem d_T_write_126 : decode b_T_write 126 = .ok (.if_icmp .ne 10, 3) := by decide +kernel
theorem d_T_write_129 : decode b_T_write 129 = .ok (.iload_n 3, 1) := by decide +kernel
theorem d_T_write_130 : decode b_T_write 130 = .ok (.bipush 31, 2) := by decide +kernel
theorem d_T_write_132 : decode b_T_write 132 = .ok (.iand, 1) := by decide +kernel
theorem d_T_write_133 : decode b_T_write 133 = .ok (.goto 7, 3) := by decide +kernel
theorem d_T_write_136 : decode b_T_write 136 = .ok (.aload_n 0, 1) := by decide +kernel
theorem d_T_write_137 : decode b_T_write 137 = .ok (.getfield 36, 3) := by decide +kernel
theorem d_T_write_140 : decode b_T_write 140 = .ok (.putfield 36, 3) := by decide +kernel
theorem d_T_write_143 : decode b_T_write 143 = .ok (.aload_n 0, 1) := by decide +kernel
theorem d_T_write_144 : decode b_T_write 144 = .ok (.iload_n 1, 1) := by decide +kernel
theorem d_T_write_145 : decode b_T_write 145 = .ok (.bipush 7, 2) := by decide +kernel
theorem d_T_write_147 : decode b_T_write 147 = .ok (.if_icmp .ne 7, 3) := by decide +kernel
theorem d_T_write_150 : decode b_T_write 150 = .ok (.iload_n 3, 1) := by decide +kernel
theorem d_T_write_151 : decode b_T_write 151 = .ok (.goto 7, 3) := by decide +kernel
theorem d_T_write_154 : decode b_T_write 154 = .ok (.aload_n 0, 1) := by decide +kernel
theorem d_T_write_155 : decode b_T_write 155 = .ok (.getfield 126, 3) := by decide +kernel
theorem d_T_write_158 : decode b_T_write 158 = .ok (.putfield 126, 3) := by decide +kernel
theorem d_T_write_161 : decode b_T_write 161 = .ok (.aload_n 0, 1) := by decide +kernel
theorem d_T_write_162 : decode b_T_write 162 = .ok (.iload 5, 2) := by decide +kernel
theorem d_T_write_164 : decode b_T_write 164 = .ok (.invokevirtual 105, 3) := by decide +kernel
theorem d_T_write_167 : decode b_T_write 167 = .ok (.iconst 1, 1) := by decide +kernel
theorem d_T_write_168 : decode b_T_write 168 = .ok (.ireturn, 1) := by decide +kernel
theorem d_T_wake_0 : decode b_T_wake 0 = .ok (.aload_n 0, 1) := by decide +kernel
theorem d_T_wake_1 : decode b_T_wake 1 = .ok (.iconst 1, 1) := by decide +kernel
theorem d_T_wake_2 : decode b_T_wake 2 = .ok (.invokevirtual 138, 3) := by decide +kernel
theorem d_T_wake_5 : decode b_T_wake 5 = .ok (.istore_n 1, 1) := by decide +kernel
theorem d_T_wake_6 : decode b_T_wake 6 = .ok (.aload_n 0, 1) := by decide +kernel
theorem d_T_wake_7 : decode b_T_wake 7 = .ok (.iconst 1, 1) := by decide +kernel
theorem d_T_wake_8 : decode b_T_wake 8 = .ok (.iload_n 1, 1) := by decide +kernel
theorem d_T_wake_9 : decode b_T_wake 9 = .ok (.iconst 2, 1) := by decide +kernel
theorem d_T_wake_10 : decode b_T_wake 10 = .ok (.ior, 1) := by decide +kernel
theorem d_T_wake_11 : decode b_T_wake 11 = .ok (.invokevirtual 141, 3) := by decide +kernel
theorem d_T_wake_14 : decode b_T_wake 14 = .ok (.pop, 1) := by decide +kernel
theorem d_T_wake_15 : decode b_T_wake 15 = .ok (.return_, 1) := by decide +kernel
theorem d_T_start_0 : decode b_T_start 0 = .ok (.aload_n 0, 1) := by decide +kernel
theorem d_T_start_1 : decode b_T_start 1 = .ok (.getfield 13, 3) := by decide +kernel
theorem d_T_start_4 : decode b_T_start 4 = .ok (.iconst 0, 1) := by decide +kernel
theorem d_T_start_5 : decode b_T_start 5 = .ok (.iconst 0, 1) := by decide +kernel
theorem d_T_start_6 : decode b_T_start 6 = .ok (.iastore, 1) := by decide +kernel
theorem d_T_start_7 : decode b_T_start 7 = .ok (.aload_n 0, 1) := by decide +kernel
theorem d_T_start_8 : decode b_T_start 8 = .ok (.getfield 13, 3) := by decide +kernel
theorem d_T_start_11 : decode b_T_start 11 = .ok (.iconst 1, 1) := by decide +kernel
theorem d_T_start_12 : decode b_T_start 12 = .ok (.iconst 0, 1) := by decide +kernel
theorem d_T_start_13 : decode b_T_start 13 = .ok (.iastore, 1) := by decide +kernel
theorem d_T_start_14 : decode b_T_start 14 = .ok (.aload_n 0, 1) := by decide +kernel
theorem d_T_start_15 : decode b_T_start 15 = .ok (.iconst 0, 1) := by decide +kernel
theorem d_T_start_16 : decode b_T_start 16 = .ok (.putfield 144, 3) := by decide +kernel
theorem d_T_start_19 : decode b_T_start 19 = .ok (.aload_n 0, 1) := by decide +kernel
theorem d_T_start_20 : decode b_T_start 20 = .ok (.iconst 0, 1) := by decide +kernel
theorem d_T_start_21 : decode b_T_start 21 = .ok (.putfield 147, 3) := by decide +kernel
theorem d_T_start_24 : decode b_T_start 24 = .ok (.aload_n 0, 1) := by decide +kernel
theorem d_T_start_25 : decode b_T_start 25 = .ok (.iconst 0, 1) := by decide +kernel
theorem d_T_start_26 : decode b_T_start 26 = .ok (.putfield 150, 3) := by decide +kernel
theorem d_T_start_29 : decode b_T_start 29 = .ok (.aload_n 0, 1) := by decide +kernel
theorem d_T_start_30 : decode b_T_start 30 = .ok (.iconst 2, 1) := by decide +kernel
theorem d_T_start_31 : decode b_T_start 31 = .ok (.bipush 71, 2) := by decide +kernel
theorem d_T_start_33 : decode b_T_start 33 = .ok (.invokevirtual 141, 3) := by decide +kernel
theorem d_T_start_36 : decode b_T_start 36 = .ok (.pop, 1) := by decide +kernel
theorem d_T_start_37 : decode b_T_start 37 = .ok (.aload_n 0, 1) := by decide +kernel
theorem d_T_start_38 : decode b_T_start 38 = .ok (.iconst 3, 1) := by decide +kernel
theorem d_T_start_39 : decode b_T_start 39 = .ok (.iconst 3, 1) := by decide +kernel
theorem d_T_start_40 : decode b_T_start 40 = .ok (.invokevirtual 141, 3) := by decide +kernel
theorem d_T_start_43 : decode b_T_start 43 = .ok (.pop, 1) := by decide +kernel
theorem d_T_start_44 : decode b_T_start 44 = .ok (.aload_n 0, 1) := by decide +kernel
theorem d_T_start_45 : decode b_T_start 45 = .ok (.iconst 1, 1) := by decide +kernel
theorem d_T_start_46 : decode b_T_start 46 = .ok (.bipush 7, 2) := by decide +kernel
theorem d_T_start_48 : decode b_T_start 48 = .ok (.invokevirtual 141, 3) := by decide +kernel
theorem d_T_start_51 : decode b_T_start 51 = .ok (.pop, 1) := by decide +kernel
theorem d_T_start_52 : decode b_T_start 52 = .ok (.return_, 1) := by decide +kernel
theorem d_T_accept_0 : decode b_T_accept 0 = .ok (.aload_n 0, 1) := by decide +kernel
theorem d_T_accept_1 : decode b_T_accept 1 = .ok (.getfield 13, 3) := by decide +kernel
theorem d_T_accept_4 : decode b_T_accept 4 = .ok (.iconst 1, 1) := by decide +kernel
theorem d_T_accept_5 : decode b_T_accept 5 = .ok (.iaload, 1) := by decide +kernel
theorem d_T_accept_6 : decode b_T_accept 6 = .ok (.bipush 24, 2) := by decide +kernel
theorem d_T_accept_8 : decode b_T_accept 8 = .ok (.if_icmp .ne 5, 3) := by decide +kernel
theorem d_T_accept_11 : decode b_T_accept 11 = .ok (.iconst 0, 1) := by decide +kernel
theorem d_T_accept_12 : decode b_T_accept 12 = .ok (.ireturn, 1) := by decide +kernel
theorem d_T_accept_13 : decode b_T_accept 13 = .ok (.aload_n 0, 1) := by decide +kernel
theorem d_T_accept_14 : decode b_T_accept 14 = .ok (.iconst 1, 1) := by decide +kernel
theorem d_T_accept_15 : decode b_T_accept 15 = .ok (.iload_n 1, 1) := by decide +kernel
theorem d_T_accept_16 : decode b_T_accept 16 = .ok (.sipush 255, 3) := by decide +kernel
theorem d_T_accept_19 : decode b_T_accept 19 = .ok (.iand, 1) := by decide +kernel
theorem d_T_accept_20 : decode b_T_accept 20 = .ok (.invokevirtual 82, 3) := by decide +kernel
theorem d_T_accept_23 : decode b_T_accept 23 = .ok (.aload_n 0, 1) := by decide +kernel
theorem d_T_accept_24 : decode b_T_accept 24 = .ok (.invokevirtual 153, 3) := by decide +kernel
theorem d_T_accept_27 : decode b_T_accept 27 = .ok (.iconst 1, 1) := by decide +kernel
theorem d_T_accept_28 : decode b_T_accept 28 = .ok (.ireturn, 1) := by decide +kernel
theorem d_T_take_0 : decode b_T_take 0 = .ok (.aload_n 0, 1) := by decide +kernel
theorem d_T_take_1 : decode b_T_take 1 = .ok (.getfield 13, 3) := by decide +kernel
theorem d_T_take_4 : decode b_T_take 4 = .ok (.iconst 0, 1) := by decide +kernel
theorem d_T_take_5 : decode b_T_take 5 = .ok (.iaload, 1) := by decide +kernel
theorem d_T_take_6 : decode b_T_take 6 = .ok (.ifCond .ne 5, 3) := by decide +kernel
theorem d_T_take_9 : decode b_T_take 9 = .ok (.iconst (-1), 1) := by decide +kernel
theorem d_T_take_10 : decode b_T_take 10 = .ok (.ireturn, 1) := by decide +kernel
theorem d_T_take_11 : decode b_T_take 11 = .ok (.aload_n 0, 1) := by decide +kernel
theorem d_T_take_12 : decode b_T_take 12 = .ok (.iconst 0, 1) := by decide +kernel
theorem d_T_take_13 : decode b_T_take 13 = .ok (.invokevirtual 60, 3) := by decide +kernel
theorem d_T_take_16 : decode b_T_take 16 = .ok (.istore_n 1, 1) := by decide +kernel
theorem d_T_take_17 : decode b_T_take 17 = .ok (.aload_n 0, 1) := by decide +kernel
theorem d_T_take_18 : decode b_T_take 18 = .ok (.getfield 147, 3) := by decide +kernel
theorem d_T_take_21 : decode b_T_take 21 = .ok (.ifCond .eq 29, 3) := by decide +kernel
theorem d_T_take_24 : decode b_T_take 24 = .ok (.aload_n 0, 1) := by decide +kernel
theorem d_T_take_25 : decode b_T_take 25 = .ok (.getfield 13, 3) := by decide +kernel
theorem d_T_take_28 : decode b_T_take 28 = .ok (.iconst 0, 1) := by decide +kernel
theorem d_T_take_29 : decode b_T_take 29 = .ok (.iaload, 1) := by decide +kernel
theorem d_T_take_30 : decode b_T_take 30 = .ok (.bipush 6, 2) := by decide +kernel
theorem d_T_take_32 : decode b_T_take 32 = .ok (.if_icmp .gt 18, 3) := by decide +kernel
theorem d_T_take_35 : decode b_T_take 35 = .ok (.aload_n 0, 1) := by decide +kernel
theorem d_T_take_36 : decode b_T_take 36 = .ok (.bipush 17, 2) := by decide +kernel
theorem d_T_take_38 : decode b_T_take 38 = .ok (.putfield 150, 3) := by decide +kernel
theorem d_T_take_41 : decode b_T_take 41 = .ok (.aload_n 0, 1) := by decide +kernel
theorem d_T_take_42 : decode b_T_take 42 = .ok (.iconst 0, 1) := by decide +kernel
theorem d_T_take_43 : decode b_T_take 43 = .ok (.putfield 147, 3) := by decide +kernel
theorem d_T_take_46 : decode b_T_take 46 = .ok (.aload_n 0, 1) := by decide +kernel
theorem d_T_take_47 : decode b_T_take 47 = .ok (.invokevirtual 153, 3) := by decide +kernel
theorem d_T_take_50 : decode b_T_take 50 = .ok (.iload_n 1, 1) := by decide +kernel
theorem d_T_take_51 : decode b_T_take 51 = .ok (.ireturn, 1) := by decide +kernel
theorem d_T_handle_0 : decode b_T_handle 0 = .ok (.iload_n 1, 1) := by decide +kernel
theorem d_T_handle_1 : decode b_T_handle 1 = .ok (.bipush 19, 2) := by decide +kernel
theorem d_T_handle_3 : decode b_T_handle 3 = .ok (.if_icmp .ne 11, 3) := by decide +kernel
theorem d_T_handle_6 : decode b_T_handle 6 = .ok (.aload_n 0, 1) := by decide +kernel
theorem d_T_handle_7 : decode b_T_handle 7 = .ok (.iconst 1, 1) := by decide +kernel
theorem d_T_handle_8 : decode b_T_handle 8 = .ok (.putfield 144, 3) := by decide +kernel
theorem d_T_handle_11 : decode b_T_handle 11 = .ok (.goto 84, 3) := by decide +kernel
theorem d_T_handle_14 : decode b_T_handle 14 = .ok (.iload_n 1, 1) := by decide +kernel
theorem d_T_handle_15 : decode b_T_handle 15 = .ok (.bipush 17, 2) := by decide +kernel
theorem d_T_handle_17 : decode b_T_handle 17 = .ok (.if_icmp .ne 15, 3) := by decide +kernel
theorem d_T_handle_20 : decode b_T_handle 20 = .ok (.aload_n 0, 1) := by decide +kernel
theorem d_T_handle_21 : decode b_T_handle 21 = .ok (.iconst 0, 1) := by decide +kernel
theorem d_T_handle_22 : decode b_T_handle 22 = .ok (.putfield 144, 3) := by decide +kernel
theorem d_T_handle_25 : decode b_T_handle 25 = .ok (.aload_n 0, 1) := by decide +kernel
theorem d_T_handle_26 : decode b_T_handle 26 = .ok (.invokevirtual 153, 3) := by decide +kernel
theorem d_T_handle_29 : decode b_T_handle 29 = .ok (.goto 66, 3) := by decide +kernel
theorem d_T_handle_32 : decode b_T_handle 32 = .ok (.aload_n 0, 1) := by decide +kernel
theorem d_T_handle_33 : decode b_T_handle 33 = .ok (.getfield 13, 3) := by decide +kernel
theorem d_T_handle_36 : decode b_T_handle 36 = .ok (.iconst 0, 1) := by decide +kernel
theorem d_T_handle_37 : decode b_T_handle 37 = .ok (.iaload, 1) := by decide +kernel
theorem d_T_handle_38 : decode b_T_handle 38 = .ok (.bipush 24, 2) := by decide +kernel
theorem d_T_handle_40 : decode b_T_handle 40 = .ok (.if_icmp .ne 16, 3) := by decide +kernel
theorem d_T_handle_43 : decode b_T_handle 43 = .ok (.aload_n 0, 1) := by decide +kernel
theorem d_T_handle_44 : decode b_T_handle 44 = .ok (.aload_n 0, 1) := by decide +kernel
theorem d_T_handle_45 : decode b_T_handle 45 = .ok (.getfield 156, 3) := by decide +kernel
theorem d_T_handle_48 : decode b_T_handle 48 = .ok (.iconst 1, 1) := by decide +kernel
theorem d_T_handle_49 : decode b_T_handle 49 = .ok (.iadd, 1) := by decide +kernel
theorem d_T_handle_50 : decode b_T_handle 50 = .ok (.putfield 156, 3) := by decide +kernel
theorem d_T_handle_53 : decode b_T_handle 53 = .ok (.goto 42, 3) := by decide +kernel
theorem d_T_handle_56 : decode b_T_handle 56 = .ok (.aload_n 0, 1) := by decide +kernel
theorem d_T_handle_57 : decode b_T_handle 57 = .ok (.iconst 0, 1) := by decide +kernel
theorem d_T_handle_58 : decode b_T_handle 58 = .ok (.iload_n 1, 1) := by decide +kernel
theorem d_T_handle_59 : decode b_T_handle 59 = .ok (.invokevirtual 82, 3) := by decide +kernel
theorem d_T_handle_62 : decode b_T_handle 62 = .ok (.aload_n 0, 1) := by decide +kernel
theorem d_T_handle_63 : decode b_T_handle 63 = .ok (.getfield 13, 3) := by decide +kernel
theorem d_T_handle_66 : decode b_T_handle 66 = .ok (.iconst 0, 1) := by decide +kernel
theorem d_T_handle_67 : decode b_T_handle 67 = .ok (.iaload, 1) := by decide +kernel
theorem d_T_handle_68 : decode b_T_handle 68 = .ok (.bipush 18, 2) := by decide +kernel
theorem d_T_handle_70 : decode b_T_handle 70 = .ok (.if_icmp .lt 25, 3) := by decide +kernel
theorem d_T_handle_73 : decode b_T_handle 73 = .ok (.aload_n 0, 1) := by decide +kernel
theorem d_T_handle_74 : decode b_T_handle 74 = .ok (.getfield 147, 3) := by decide +kernel
theorem d_T_handle_77 : decode b_T_handle 77 = .ok (.ifCond .ne 18, 3) := by decide +kernel
theorem d_T_handle_80 : decode b_T_handle 80 = .ok (.aload_n 0, 1) := by decide +kernel
theorem d_T_handle_81 : decode b_T_handle 81 = .ok (.bipush 19, 2) := by decide +kernel
theorem d_T_handle_83 : decode b_T_handle 83 = .ok (.putfield 150, 3) := by decide +kernel
theorem d_T_handle_86 : decode b_T_handle 86 = .ok (.aload_n 0, 1) := by decide +kernel
theorem d_T_handle_87 : decode b_T_handle 87 = .ok (.iconst 1, 1) := by decide +kernel
theorem d_T_handle_88 : decode b_T_handle 88 = .ok (.putfield 147, 3) := by decide +kernel
theorem d_T_handle_91 : decode b_T_handle 91 = .ok (.aload_n 0, 1) := by decide +kernel
theorem d_T_handle_92 : decode b_T_handle 92 = .ok (.invokevirtual 153, 3) := by decide +kernel
theorem d_T_handle_95 : decode b_T_handle 95 = .ok (.return_, 1) := by decide +kernel
theorem d_T_receive_0 : decode b_T_receive 0 = .ok (.iconst 1, 1) := by decide +kernel
theorem d_T_receive_1 : decode b_T_receive 1 = .ok (.istore_n 1, 1) := by decide +kernel
theorem d_T_receive_2 : decode b_T_receive 2 = .ok (.iconst 1, 1) := by decide +kernel
theorem d_T_receive_3 : decode b_T_receive 3 = .ok (.istore_n 2, 1) := by decide +kernel
theorem d_T_receive_4 : decode b_T_receive 4 = .ok (.iload_n 2, 1) := by decide +kernel
theorem d_T_receive_5 : decode b_T_receive 5 = .ok (.bipush 17, 2) := by decide +kernel
theorem d_T_receive_7 : decode b_T_receive 7 = .ok (.if_icmp .gt 83, 3) := by decide +kernel
theorem d_T_receive_10 : decode b_T_receive 10 = .ok (.iload_n 1, 1) := by decide +kernel
theorem d_T_receive_11 : decode b_T_receive 11 = .ok (.ifCond .eq 79, 3) := by decide +kernel
theorem d_T_receive_14 : decode b_T_receive 14 = .ok (.aload_n 0, 1) := by decide +kernel
theorem d_T_receive_15 : decode b_T_receive 15 = .ok (.iconst 5, 1) := by decide +kernel
theorem d_T_receive_16 : decode b_T_receive 16 = .ok (.invokevirtual 138, 3) := by decide +kernel
theorem d_T_receive_19 : decode b_T_receive 19 = .ok (.istore_n 3, 1) := by decide +kernel
theorem d_T_receive_20 : decode b_T_receive 20 = .ok (.aload_n 0, 1) := by decide +kernel
theorem d_T_receive_21 : decode b_T_receive 21 = .ok (.aload_n 0, 1) := by decide +kernel
theorem d_T_receive_22 : decode b_T_receive 22 = .ok (.iload_n 3, 1) := by decide +kernel
theorem d_T_receive_23 : decode b_T_receive 23 = .ok (.iconst 1, 1) := by decide +kernel
theorem d_T_receive_24 : decode b_T_receive 24 = .ok (.invokevirtual 39, 3) := by decide +kernel
theorem d_T_receive_27 : decode b_T_receive 27 = .ok (.ifCond .eq 12, 3) := by decide +kernel
theorem d_T_receive_30 : decode b_T_receive 30 = .ok (.aload_n 0, 1) := by decide +kernel
theorem d_T_receive_31 : decode b_T_receive 31 = .ok (.getfield 156, 3) := by decide +kernel
theorem d_T_receive_34 : decode b_T_receive 34 = .ok (.iconst 1, 1) := by decide +kernel
theorem d_T_receive_35 : decode b_T_receive 35 = .ok (.iadd, 1) := by decide +kernel
theorem d_T_receive_36 : decode b_T_receive 36 = .ok (.goto 7, 3) := by decide +kernel
theorem d_T_receive_39 : decode b_T_receive 39 = .ok (.aload_n 0, 1) := by decide +kernel
theorem d_T_receive_40 : decode b_T_receive 40 = .ok (.getfield 156, 3) := by decide +kernel
theorem d_T_receive_43 : decode b_T_receive 43 = .ok (.putfield 156, 3) := by decide +kernel
theorem d_T_receive_46 : decode b_T_receive 46 = .ok (.aload_n 0, 1) := by decide +kernel
theorem d_T_receive_47 : decode b_T_receive 47 = .ok (.iload_n 3, 1) := by decide +kernel
theorem d_T_receive_48 : decode b_T_receive 48 = .ok (.iconst 0, 1) := by decide +kernel
theorem d_T_receive_49 : decode b_T_receive 49 = .ok (.invokevirtual 39, 3) := by decide +kernel
theorem d_T_receive_52 : decode b_T_receive 52 = .ok (.ifCond .eq 13, 3) := by decide +kernel
theorem d_T_receive_55 : decode b_T_receive 55 = .ok (.iload_n 2, 1) := by decide +kernel
theorem d_T_receive_56 : decode b_T_receive 56 = .ok (.bipush 17, 2) := by decide +kernel
theorem d_T_receive_58 : decode b_T_receive 58 = .ok (.if_icmp .ge 7, 3) := by decide +kernel
theorem d_T_receive_61 : decode b_T_receive 61 = .ok (.iconst 1, 1) := by decide +kernel
theorem d_T_receive_62 : decode b_T_receive 62 = .ok (.goto 4, 3) := by decide +kernel
theorem d_T_receive_65 : decode b_T_receive 65 = .ok (.iconst 0, 1) := by decide +kernel
theorem d_T_receive_66 : decode b_T_receive 66 = .ok (.istore_n 1, 1) := by decide +kernel
theorem d_T_receive_67 : decode b_T_receive 67 = .ok (.iload_n 1, 1) := by decide +kernel
theorem d_T_receive_68 : decode b_T_receive 68 = .ok (.ifCond .eq 16, 3) := by decide +kernel
theorem d_T_receive_71 : decode b_T_receive 71 = .ok (.aload_n 0, 1) := by decide +kernel
theorem d_T_receive_72 : decode b_T_receive 72 = .ok (.iconst 0, 1) := by decide +kernel
theorem d_T_receive_73 : decode b_T_receive 73 = .ok (.invokevirtual 138, 3) := by decide +kernel
theorem d_T_receive_76 : decode b_T_receive 76 = .ok (.istore 4, 2) := by decide +kernel
theorem d_T_receive_78 : decode b_T_receive 78 = .ok (.aload_n 0, 1) := by decide +kernel
theorem d_T_receive_79 : decode b_T_receive 79 = .ok (.iload 4, 2) := by decide +kernel
theorem d_T_receive_81 : decode b_T_receive 81 = .ok (.invokevirtual 159, 3) := by decide +kernel
theorem d_T_receive_84 : decode b_T_receive 84 = .ok (.iinc 2 1, 3) := by decide +kernel
theorem d_T_receive_87 : decode b_T_receive 87 = .ok (.goto (-83), 3) := by decide +kernel
theorem d_T_receive_90 : decode b_T_receive 90 = .ok (.return_, 1) := by decide +kernel
theorem d_T_transmit_0 : decode b_T_transmit 0 = .ok (.iconst 0, 1) := by decide +kernel
theorem d_T_transmit_1 : decode b_T_transmit 1 = .ok (.istore_n 1, 1) := by decide +kernel
theorem d_T_transmit_2 : decode b_T_transmit 2 = .ok (.aload_n 0, 1) := by decide +kernel
theorem d_T_transmit_3 : decode b_T_transmit 3 = .ok (.getfield 150, 3) := by decide +kernel
theorem d_T_transmit_6 : decode b_T_transmit 6 = .ok (.ifCond .eq 22, 3) := by decide +kernel
theorem d_T_transmit_9 : decode b_T_transmit 9 = .ok (.aload_n 0, 1) := by decide +kernel
theorem d_T_transmit_10 : decode b_T_transmit 10 = .ok (.getfield 150, 3) := by decide +kernel
theorem d_T_transmit_13 : decode b_T_transmit 13 = .ok (.istore_n 2, 1) := by decide +kernel
theorem d_T_transmit_14 : decode b_T_transmit 14 = .ok (.aload_n 0, 1) := by decide +kernel
theorem d_T_transmit_15 : decode b_T_transmit 15 = .ok (.iconst 0, 1) := by decide +kernel
theorem d_T_transmit_16 : decode b_T_transmit 16 = .ok (.putfield 150, 3) := by decide +kernel
theorem d_T_transmit_19 : decode b_T_transmit 19 = .ok (.aload_n 0, 1) := by decide +kernel
theorem d_T_transmit_20 : decode b_T_transmit 20 = .ok (.iconst 0, 1) := by decide +kernel
theorem d_T_transmit_21 : decode b_T_transmit 21 = .ok (.iload_n 2, 1) := by decide +kernel
theorem d_T_transmit_22 : decode b_T_transmit 22 = .ok (.invokevirtual 141, 3) := by decide +kernel
theorem d_T_transmit_25 : decode b_T_transmit 25 = .ok (.pop, 1) := by decide +kernel
theorem d_T_transmit_26 : decode b_T_transmit 26 = .ok (.iconst 1, 1) := by decide +kernel
theorem d_T_transmit_27 : decode b_T_transmit 27 = .ok (.istore_n 1, 1) := by decide +kernel
theorem d_T_transmit_28 : decode b_T_transmit 28 = .ok (.aload_n 0, 1) := by decide +kernel
theorem d_T_transmit_29 : decode b_T_transmit 29 = .ok (.getfield 144, 3) := by decide +kernel
theorem d_T_transmit_32 : decode b_T_transmit 32 = .ok (.ifCond .ne 38, 3) := by decide +kernel
theorem d_T_transmit_35 : decode b_T_transmit 35 = .ok (.aload_n 0, 1) := by decide +kernel
theorem d_T_transmit_36 : decode b_T_transmit 36 = .ok (.getfield 13, 3) := by decide +kernel
theorem d_T_transmit_39 : decode b_T_transmit 39 = .ok (.iconst 1, 1) := by decide +kernel
theorem d_T_transmit_40 : decode b_T_transmit 40 = .ok (.iaload, 1) := by decide +kernel
theorem d_T_transmit_41 : decode b_T_transmit 41 = .ok (.ifCond .le 29, 3) := by decide +kernel
theorem d_T_transmit_44 : decode b_T_transmit 44 = .ok (.iload_n 1, 1) := by decide +kernel
theorem d_T_transmit_45 : decode b_T_transmit 45 = .ok (.bipush 16, 2) := by decide +kernel
theorem d_T_transmit_47 : decode b_T_transmit 47 = .ok (.if_icmp .ge 23, 3) := by decide +kernel
theorem d_T_transmit_50 : decode b_T_transmit 50 = .ok (.aload_n 0, 1) := by decide +kernel
theorem d_T_transmit_51 : decode b_T_transmit 51 = .ok (.iconst 1, 1) := by decide +kernel
theorem d_T_transmit_52 : decode b_T_transmit 52 = .ok (.invokevirtual 60, 3) := by decide +kernel
theorem d_T_transmit_55 : decode b_T_transmit 55 = .ok (.istore_n 2, 1) := by decide +kernel
theorem d_T_transmit_56 : decode b_T_transmit 56 = .ok (.aload_n 0, 1) := by decide +kernel
theorem d_T_transmit_57 : decode b_T_transmit 57 = .ok (.iconst 0, 1) := by decide +kernel
theorem d_T_transmit_58 : decode b_T_transmit 58 = .ok (.iload_n 2, 1) := by decide +kernel
theorem d_T_transmit_59 : decode b_T_transmit 59 = .ok (.invokevirtual 141, 3) := by decide +kernel
theorem d_T_transmit_62 : decode b_T_transmit 62 = .ok (.pop, 1) := by decide +kernel
theorem d_T_transmit_63 : decode b_T_transmit 63 = .ok (.iload_n 1, 1) := by decide +kernel
theorem d_T_transmit_64 : decode b_T_transmit 64 = .ok (.iconst 1, 1) := by decide +kernel
theorem d_T_transmit_65 : decode b_T_transmit 65 = .ok (.iadd, 1) := by decide +kernel
theorem d_T_transmit_66 : decode b_T_transmit 66 = .ok (.istore_n 1, 1) := by decide +kernel
theorem d_T_transmit_67 : decode b_T_transmit 67 = .ok (.goto (-39), 3) := by decide +kernel
theorem d_T_transmit_70 : decode b_T_transmit 70 = .ok (.iload_n 1, 1) := by decide +kernel
theorem d_T_transmit_71 : decode b_T_transmit 71 = .ok (.ifCond .ne 19, 3) := by decide +kernel
theorem d_T_transmit_74 : decode b_T_transmit 74 = .ok (.aload_n 0, 1) := by decide +kernel
theorem d_T_transmit_75 : decode b_T_transmit 75 = .ok (.iconst 1, 1) := by decide +kernel
theorem d_T_transmit_76 : decode b_T_transmit 76 = .ok (.invokevirtual 138, 3) := by decide +kernel
theorem d_T_transmit_79 : decode b_T_transmit 79 = .ok (.istore_n 2, 1) := by decide +kernel
theorem d_T_transmit_80 : decode b_T_transmit 80 = .ok (.aload_n 0, 1) := by decide +kernel
theorem d_T_transmit_81 : decode b_T_transmit 81 = .ok (.iconst 1, 1) := by decide +kernel
theorem d_T_transmit_82 : decode b_T_transmit 82 = .ok (.iload_n 2, 1) := by decide +kernel
theorem d_T_transmit_83 : decode b_T_transmit 83 = .ok (.bipush (-3), 2) := by decide +kernel
theorem d_T_transmit_85 : decode b_T_transmit 85 = .ok (.iand, 1) := by decide +kernel
theorem d_T_transmit_86 : decode b_T_transmit 86 = .ok (.invokevirtual 141, 3) := by decide +kernel
theorem d_T_transmit_89 : decode b_T_transmit 89 = .ok (.pop, 1) := by decide +kernel
theorem d_T_transmit_90 : decode b_T_transmit 90 = .ok (.return_, 1) := by decide +kernel
theorem d_T_round_0 : decode b_T_round 0 = .ok (.aload_n 0, 1) := by decide +kernel
theorem d_T_round_1 : decode b_T_round 1 = .ok (.iconst 2, 1) := by decide +kernel
theorem d_T_round_2 : decode b_T_round 2 = .ok (.invokevirtual 138, 3) := by decide +kernel
theorem d_T_round_5 : decode b_T_round 5 = .ok (.bipush 15, 2) := by decide +kernel
theorem d_T_round_7 : decode b_T_round 7 = .ok (.iand, 1) := by decide +kernel
theorem d_T_round_8 : decode b_T_round 8 = .ok (.istore_n 1, 1) := by decide +kernel
theorem d_T_round_9 : decode b_T_round 9 = .ok (.iconst 0, 1) := by decide +kernel
theorem d_T_round_10 : decode b_T_round 10 = .ok (.istore_n 2, 1) := by decide +kernel
theorem d_T_round_11 : decode b_T_round 11 = .ok (.iload_n 1, 1) := by decide +kernel
theorem d_T_round_12 : decode b_T_round 12 = .ok (.bipush 6, 2) := by decide +kernel
theorem d_T_round_14 : decode b_T_round 14 = .ok (.if_icmp .ne 38, 3) := by decide +kernel
theorem d_T_round_17 : decode b_T_round 17 = .ok (.aload_n 0, 1) := by decide +kernel
theorem d_T_round_18 : decode b_T_round 18 = .ok (.iconst 5, 1) := by decide +kernel
theorem d_T_round_19 : decode b_T_round 19 = .ok (.invokevirtual 138, 3) := by decide +kernel
theorem d_T_round_22 : decode b_T_round 22 = .ok (.istore_n 2, 1) := by decide +kernel
theorem d_T_round_23 : decode b_T_round 23 = .ok (.aload_n 0, 1) := by decide +kernel
theorem d_T_round_24 : decode b_T_round 24 = .ok (.aload_n 0, 1) := by decide +kernel
theorem d_T_round_25 : decode b_T_round 25 = .ok (.iload_n 2, 1) := by decide +kernel
theorem d_T_round_26 : decode b_T_round 26 = .ok (.iconst 1, 1) := by decide +kernel
theorem d_T_round_27 : decode b_T_round 27 = .ok (.invokevirtual 39, 3) := by decide +kernel
theorem d_T_round_30 : decode b_T_round 30 = .ok (.ifCond .eq 12, 3) := by decide +kernel
theorem d_T_round_33 : decode b_T_round 33 = .ok (.aload_n 0, 1) := by decide +kernel
theorem d_T_round_34 : decode b_T_round 34 = .ok (.getfield 156, 3) := by decide +kernel
theorem d_T_round_37 : decode b_T_round 37 = .ok (.iconst 1, 1) := by decide +kernel
theorem d_T_round_38 : decode b_T_round 38 = .ok (.iadd, 1) := by decide +kernel
theorem d_T_round_39 : decode b_T_round 39 = .ok (.goto 7, 3) := by decide +kernel
theorem d_T_round_42 : decode b_T_round 42 = .ok (.aload_n 0, 1) := by decide +kernel
theorem d_T_round_43 : decode b_T_round 43 = .ok (.getfield 156, 3) := by decide +kernel
theorem d_T_round_46 : decode b_T_round 46 = .ok (.putfield 156, 3) := by decide +kernel
theorem d_T_round_49 : decode b_T_round 49 = .ok (.goto 44, 3) := by decide +kernel
theorem d_T_round_52 : decode b_T_round 52 = .ok (.iload_n 1, 1) := by decide +kernel
theorem d_T_round_53 : decode b_T_round 53 = .ok (.iconst 4, 1) := by decide +kernel
theorem d_T_round_54 : decode b_T_round 54 = .ok (.if_icmp .eq 9, 3) := by decide +kernel
theorem d_T_round_57 : decode b_T_round 57 = .ok (.iload_n 1, 1) := by decide +kernel
theorem d_T_round_58 : decode b_T_round 58 = .ok (.bipush 12, 2) := by decide +kernel
theorem d_T_round_60 : decode b_T_round 60 = .ok (.if_icmp .ne 10, 3) := by decide +kernel
theorem d_T_round_63 : decode b_T_round 63 = .ok (.aload_n 0, 1) := by decide +kernel
theorem d_T_round_64 : decode b_T_round 64 = .ok (.invokevirtual 162, 3) := by decide +kernel
theorem d_T_round_67 : decode b_T_round 67 = .ok (.goto 26, 3) := by decide +kernel
theorem d_T_round_70 : decode b_T_round 70 = .ok (.iload_n 1, 1) := by decide +kernel
theorem d_T_round_71 : decode b_T_round 71 = .ok (.iconst 2, 1) := by decide +kernel
theorem d_T_round_72 : decode b_T_round 72 = .ok (.if_icmp .ne 10, 3) := by decide +kernel
theorem d_T_round_75 : decode b_T_round 75 = .ok (.aload_n 0, 1) := by decide +kernel
theorem d_T_round_76 : decode b_T_round 76 = .ok (.invokevirtual 165, 3) := by decide +kernel
theorem d_T_round_79 : decode b_T_round 79 = .ok (.goto 14, 3) := by decide +kernel
theorem d_T_round_82 : decode b_T_round 82 = .ok (.iload_n 1, 1) := by decide +kernel
theorem d_T_round_83 : decode b_T_round 83 = .ok (.ifCond .ne 10, 3) := by decide +kernel
theorem d_T_round_86 : decode b_T_round 86 = .ok (.aload_n 0, 1) := by decide +kernel
theorem d_T_round_87 : decode b_T_round 87 = .ok (.bipush 6, 2) := by decide +kernel
theorem d_T_round_89 : decode b_T_round 89 = .ok (.invokevirtual 138, 3) := by decide +kernel
theorem d_T_round_92 : decode b_T_round 92 = .ok (.istore_n 2, 1) := by decide +kernel
theorem d_T_round_93 : decode b_T_round 93 = .ok (.iload_n 1, 1) := by decide +kernel
theorem d_T_round_94 : decode b_T_round 94 = .ok (.iconst 1, 1) := by decide +kernel
theorem d_T_round_95 : decode b_T_round 95 = .ok (.if_icmp .eq 7, 3) := by decide +kernel
theorem d_T_round_98 : decode b_T_round 98 = .ok (.iconst 1, 1) := by decide +kernel
theorem d_T_round_99 : decode b_T_round 99 = .ok (.goto 4, 3) := by decide +kernel
theorem d_T_round_102 : decode b_T_round 102 = .ok (.iconst 0, 1) := by decide +kernel
theorem d_T_round_103 : decode b_T_round 103 = .ok (.ireturn, 1) := by decide +kernel
theorem d_T_service_0 : decode b_T_service 0 = .ok (.iconst 0, 1) := by decide +kernel
theorem d_T_service_1 : decode b_T_service 1 = .ok (.istore_n 1, 1) := by decide +kernel
theorem d_T_service_2 : decode b_T_service 2 = .ok (.iconst 1, 1) := by decide +kernel
theorem d_T_service_3 : decode b_T_service 3 = .ok (.istore_n 2, 1) := by decide +kernel
theorem d_T_service_4 : decode b_T_service 4 = .ok (.iload_n 1, 1) := by decide +kernel
theorem d_T_service_5 : decode b_T_service 5 = .ok (.bipush 8, 2) := by decide +kernel
theorem d_T_service_7 : decode b_T_service 7 = .ok (.if_icmp .ge 27, 3) := by decide +kernel
theorem d_T_service_10 : decode b_T_service 10 = .ok (.iload_n 2, 1) := by decide +kernel
theorem d_T_service_11 : decode b_T_service 11 = .ok (.ifCond .eq 23, 3) := by decide +kernel
theorem d_T_service_14 : decode b_T_service 14 = .ok (.aload_n 0, 1) := by decide +kernel
theorem d_T_service_15 : decode b_T_service 15 = .ok (.invokevirtual 168, 3) := by decide +kernel
theorem d_T_service_18 : decode b_T_service 18 = .ok (.istore_n 2, 1) := by decide +kernel
theorem d_T_service_19 : decode b_T_service 19 = .ok (.iload_n 2, 1) := by decide +kernel
theorem d_T_service_20 : decode b_T_service 20 = .ok (.ifCond .eq 9, 3) := by decide +kernel
theorem d_T_service_23 : decode b_T_service 23 = .ok (.iload_n 1, 1) := by decide +kernel
theorem d_T_service_24 : decode b_T_service 24 = .ok (.iconst 1, 1) := by decide +kernel
theorem d_T_service_25 : decode b_T_service 25 = .ok (.iadd, 1) := by decide +kernel
theorem d_T_service_26 : decode b_T_service 26 = .ok (.goto 4, 3) := by decide +kernel
theorem d_T_service_29 : decode b_T_service 29 = .ok (.iload_n 1, 1) := by decide +kernel
theorem d_T_service_30 : decode b_T_service 30 = .ok (.istore_n 1, 1) := by decide +kernel
theorem d_T_service_31 : decode b_T_service 31 = .ok (.goto (-27), 3) := by decide +kernel
theorem d_T_service_34 : decode b_T_service 34 = .ok (.iload_n 1, 1) := by decide +kernel
theorem d_T_service_35 : decode b_T_service 35 = .ok (.ireturn, 1) := by decide +kernel
theorem d_T_count_0 : decode b_T_count 0 = .ok (.iload_n 1, 1) := by decide +kernel
theorem d_T_count_1 : decode b_T_count 1 = .ok (.ifCond .lt 8, 3) := by decide +kernel
theorem d_T_count_4 : decode b_T_count 4 = .ok (.iload_n 1, 1) := by decide +kernel
theorem d_T_count_5 : decode b_T_count 5 = .ok (.iconst 3, 1) := by decide +kernel
theorem d_T_count_6 : decode b_T_count 6 = .ok (.if_icmp .le 7, 3) := by decide +kernel
theorem d_T_count_9 : decode b_T_count 9 = .ok (.iconst (-1), 1) := by decide +kernel
theorem d_T_count_10 : decode b_T_count 10 = .ok (.goto 9, 3) := by decide +kernel
theorem d_T_count_13 : decode b_T_count 13 = .ok (.aload_n 0, 1) := by decide +kernel
theorem d_T_count_14 : decode b_T_count 14 = .ok (.getfield 13, 3) := by decide +kernel
theorem d_T_count_17 : decode b_T_count 17 = .ok (.iload_n 1, 1) := by decide +kernel
theorem d_T_count_18 : decode b_T_count 18 = .ok (.iaload, 1) := by decide +kernel
theorem d_T_count_19 : decode b_T_count 19 = .ok (.ireturn, 1) := by decide +kernel
theorem d_T_flow_0 : decode b_T_flow 0 = .ok (.aload_n 0, 1) := by decide +kernel
theorem d_T_flow_1 : decode b_T_flow 1 = .ok (.getfield 144, 3) := by decide +kernel
theorem d_T_flow_4 : decode b_T_flow 4 = .ok (.ifCond .eq 7, 3) := by decide +kernel
theorem d_T_flow_7 : decode b_T_flow 7 = .ok (.iconst 1, 1) := by decide +kernel
theorem d_T_flow_8 : decode b_T_flow 8 = .ok (.goto 4, 3) := by decide +kernel
theorem d_T_flow_11 : decode b_T_flow 11 = .ok (.iconst 0, 1) := by decide +kernel
theorem d_T_flow_12 : decode b_T_flow 12 = .ok (.aload_n 0, 1) := by decide +kernel
theorem d_T_flow_13 : decode b_T_flow 13 = .ok (.getfield 147, 3) := by decide +kernel
theorem d_T_flow_16 : decode b_T_flow 16 = .ok (.ifCond .eq 7, 3) := by decide +kernel
theorem d_T_flow_19 : decode b_T_flow 19 = .ok (.iconst 2, 1) := by decide +kernel
theorem d_T_flow_20 : decode b_T_flow 20 = .ok (.goto 4, 3) := by decide +kernel
theorem d_T_flow_23 : decode b_T_flow 23 = .ok (.iconst 0, 1) := by decide +kernel
theorem d_T_flow_24 : decode b_T_flow 24 = .ok (.iadd, 1) := by decide +kernel
theorem d_T_flow_25 : decode b_T_flow 25 = .ok (.aload_n 0, 1) := by decide +kernel
theorem d_T_flow_26 : decode b_T_flow 26 = .ok (.getfield 150, 3) := by decide +kernel
theorem d_T_flow_29 : decode b_T_flow 29 = .ok (.bipush 17, 2) := by decide +kernel
theorem d_T_flow_31 : decode b_T_flow 31 = .ok (.if_icmp .ne 7, 3) := by decide +kernel
theorem d_T_flow_34 : decode b_T_flow 34 = .ok (.iconst 4, 1) := by decide +kernel
theorem d_T_flow_35 : decode b_T_flow 35 = .ok (.goto 4, 3) := by decide +kernel
theorem d_T_flow_38 : decode b_T_flow 38 = .ok (.iconst 0, 1) := by decide +kernel
theorem d_T_flow_39 : decode b_T_flow 39 = .ok (.iadd, 1) := by decide +kernel
theorem d_T_flow_40 : decode b_T_flow 40 = .ok (.aload_n 0, 1) := by decide +kernel
theorem d_T_flow_41 : decode b_T_flow 41 = .ok (.getfield 150, 3) := by decide +kernel
theorem d_T_flow_44 : decode b_T_flow 44 = .ok (.bipush 19, 2) := by decide +kernel
theorem d_T_flow_46 : decode b_T_flow 46 = .ok (.if_icmp .ne 8, 3) := by decide +kernel
theorem d_T_flow_49 : decode b_T_flow 49 = .ok (.bipush 8, 2) := by decide +kernel
theorem d_T_flow_51 : decode b_T_flow 51 = .ok (.goto 4, 3) := by decide +kernel
theorem d_T_flow_54 : decode b_T_flow 54 = .ok (.iconst 0, 1) := by decide +kernel
theorem d_T_flow_55 : decode b_T_flow 55 = .ok (.iadd, 1) := by decide +kernel
theorem d_T_flow_56 : decode b_T_flow 56 = .ok (.ireturn, 1) := by decide +kernel
theorem d_T_lost_0 : decode b_T_lost 0 = .ok (.aload_n 0, 1) := by decide +kernel
theorem d_T_lost_1 : decode b_T_lost 1 = .ok (.getfield 156, 3) := by decide +kernel
theorem d_T_lost_4 : decode b_T_lost 4 = .ok (.ireturn, 1) := by decide +kernel
theorem d_T_left_0 : decode b_T_left 0 = .ok (.aload_n 0, 1) := by decide +kernel
theorem d_T_left_1 : decode b_T_left 1 = .ok (.getfield 57, 3) := by decide +kernel
theorem d_T_left_4 : decode b_T_left 4 = .ok (.ifCond .ne 7, 3) := by decide +kernel
theorem d_T_left_7 : decode b_T_left 7 = .ok (.iconst 0, 1) := by decide +kernel
theorem d_T_left_8 : decode b_T_left 8 = .ok (.goto 12, 3) := by decide +kernel
theorem d_T_left_11 : decode b_T_left 11 = .ok (.aload_n 0, 1) := by decide +kernel
theorem d_T_left_12 : decode b_T_left 12 = .ok (.getfield 57, 3) := by decide +kernel
theorem d_T_left_15 : decode b_T_left 15 = .ok (.aload_n 0, 1) := by decide +kernel
theorem d_T_left_16 : decode b_T_left 16 = .ok (.getfield 67, 3) := by decide +kernel
theorem d_T_left_19 : decode b_T_left 19 = .ok (.isub, 1) := by decide +kernel
theorem d_T_left_20 : decode b_T_left 20 = .ok (.ireturn, 1) := by decide +kernel
