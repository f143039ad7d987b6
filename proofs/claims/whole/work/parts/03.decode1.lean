theorem d_F_init_0 : decode b_F_init 0 = .ok (.aload_n 0, 1) := by decide +kernel
theorem d_F_init_1 : decode b_F_init 1 = .ok (.invokespecial 1, 3) := by decide +kernel
theorem d_F_init_4 : decode b_F_init 4 = .ok (.aload_n 0, 1) := by decide +kernel
theorem d_F_init_5 : decode b_F_init 5 = .ok (.new 7, 3) := by decide +kernel
theorem d_F_init_8 : decode b_F_init 8 = .ok (.dup, 1) := by decide +kernel
theorem d_F_init_9 : decode b_F_init 9 = .ok (.invokespecial 9, 3) := by decide +kernel
theorem d_F_init_12 : decode b_F_init 12 = .ok (.putfield 10, 3) := by decide +kernel
theorem d_F_init_15 : decode b_F_init 15 = .ok (.aload_n 0, 1) := by decide +kernel
theorem d_F_init_16 : decode b_F_init 16 = .ok (.new 16, 3) := by decide +kernel
theorem d_F_init_19 : decode b_F_init 19 = .ok (.dup, 1) := by decide +kernel
theorem d_F_init_20 : decode b_F_init 20 = .ok (.aload_n 0, 1) := by decide +kernel
theorem d_F_init_21 : decode b_F_init 21 = .ok (.getfield 10, 3) := by decide +kernel
theorem d_F_init_24 : decode b_F_init 24 = .ok (.invokespecial 18, 3) := by decide +kernel
theorem d_F_init_27 : decode b_F_init 27 = .ok (.putfield 21, 3) := by decide +kernel
theorem d_F_init_30 : decode b_F_init 30 = .ok (.return_, 1) := by decide +kernel
theorem d_F_read_0 : decode b_F_read 0 = .ok (.iload_n 1, 1) := by decide +kernel
theorem d_F_read_1 : decode b_F_read 1 = .ok (.invokestatic 25, 3) := by decide +kernel
theorem d_F_read_4 : decode b_F_read 4 = .ok (.ifCond .eq 14, 3) := by decide +kernel
theorem d_F_read_7 : decode b_F_read 7 = .ok (.aload_n 0, 1) := by decide +kernel
theorem d_F_read_8 : decode b_F_read 8 = .ok (.getfield 10, 3) := by decide +kernel
theorem d_F_read_11 : decode b_F_read 11 = .ok (.iload_n 1, 1) := by decide +kernel
theorem d_F_read_12 : decode b_F_read 12 = .ok (.invokevirtual 29, 3) := by decide +kernel
theorem d_F_read_15 : decode b_F_read 15 = .ok (.goto 4, 3) := by decide +kernel
theorem d_F_read_18 : decode b_F_read 18 = .ok (.iconst (-1), 1) := by decide +kernel
theorem d_F_read_19 : decode b_F_read 19 = .ok (.ireturn, 1) := by decide +kernel
theorem d_F_write_0 : decode b_F_write 0 = .ok (.iload_n 1, 1) := by decide +kernel
theorem d_F_write_1 : decode b_F_write 1 = .ok (.invokestatic 25, 3) := by decide +kernel
theorem d_F_write_4 : decode b_F_write 4 = .ok (.ifCond .ne 5, 3) := by decide +kernel
theorem d_F_write_7 : decode b_F_write 7 = .ok (.iconst 0, 1) := by decide +kernel
theorem d_F_write_8 : decode b_F_write 8 = .ok (.ireturn, 1) := by decide +kernel
theorem d_F_write_9 : decode b_F_write 9 = .ok (.aload_n 0, 1) := by decide +kernel
theorem d_F_write_10 : decode b_F_write 10 = .ok (.getfield 10, 3) := by decide +kernel
theorem d_F_write_13 : decode b_F_write 13 = .ok (.iload_n 1, 1) := by decide +kernel
theorem d_F_write_14 : decode b_F_write 14 = .ok (.iload_n 2, 1) := by decide +kernel
theorem d_F_write_15 : decode b_F_write 15 = .ok (.invokevirtual 33, 3) := by decide +kernel
theorem d_F_write_18 : decode b_F_write 18 = .ok (.iconst 1, 1) := by decide +kernel
theorem d_F_write_19 : decode b_F_write 19 = .ok (.ireturn, 1) := by decide +kernel
theorem d_F_wire_0 : decode b_F_wire 0 = .ok (.iload_n 2, 1) := by decide +kernel
theorem d_F_wire_1 : decode b_F_wire 1 = .ok (.ifCond .lt 22, 3) := by decide +kernel
theorem d_F_wire_4 : decode b_F_wire 4 = .ok (.iload_n 2, 1) := by decide +kernel
theorem d_F_wire_5 : decode b_F_wire 5 = .ok (.bipush 7, 2) := by decide +kernel
theorem d_F_wire_7 : decode b_F_wire 7 = .ok (.if_icmp .gt 16, 3) := by decide +kernel
theorem d_F_wire_10 : decode b_F_wire 10 = .ok (.aload_n 0, 1) := by decide +kernel
theorem d_F_wire_11 : decode b_F_wire 11 = .ok (.getfield 10, 3) := by decide +kernel
theorem d_F_wire_14 : decode b_F_wire 14 = .ok (.getfield 37, 3) := by decide +kernel
theorem d_F_wire_17 : decode b_F_wire 17 = .ok (.invokevirtual 41, 3) := by decide +kernel
theorem d_F_wire_20 : decode b_F_wire 20 = .ok (.ifCond .eq 5, 3) := by decide +kernel
theorem d_F_wire_23 : decode b_F_wire 23 = .ok (.iconst 0, 1) := by decide +kernel
theorem d_F_wire_24 : decode b_F_wire 24 = .ok (.ireturn, 1) := by decide +kernel
theorem d_F_wire_25 : decode b_F_wire 25 = .ok (.aload_n 0, 1) := by decide +kernel
theorem d_F_wire_26 : decode b_F_wire 26 = .ok (.getfield 10, 3) := by decide +kernel
theorem d_F_wire_29 : decode b_F_wire 29 = .ok (.iload_n 1, 1) := by decide +kernel
theorem d_F_wire_30 : decode b_F_wire 30 = .ok (.sipush 255, 3) := by decide +kernel
theorem d_F_wire_33 : decode b_F_wire 33 = .ok (.iand, 1) := by decide +kernel
theorem d_F_wire_34 : decode b_F_wire 34 = .ok (.iload_n 2, 1) := by decide +kernel
theorem d_F_wire_35 : decode b_F_wire 35 = .ok (.invokevirtual 47, 3) := by decide +kernel
theorem d_F_wire_38 : decode b_F_wire 38 = .ok (.iconst 1, 1) := by decide +kernel
theorem d_F_wire_39 : decode b_F_wire 39 = .ok (.ireturn, 1) := by decide +kernel
theorem d_F_tick_0 : decode b_F_tick 0 = .ok (.iload_n 1, 1) := by decide +kernel
theorem d_F_tick_1 : decode b_F_tick 1 = .ok (.iconst 1, 1) := by decide +kernel
theorem d_F_tick_2 : decode b_F_tick 2 = .ok (.if_icmp .lt 9, 3) := by decide +kernel
theorem d_F_tick_5 : decode b_F_tick 5 = .ok (.iload_n 1, 1) := by decide +kernel
theorem d_F_tick_6 : decode b_F_tick 6 = .ok (.bipush 100, 2) := by decide +kernel
theorem d_F_tick_8 : decode b_F_tick 8 = .ok (.if_icmp .le 5, 3) := by decide +kernel
theorem d_F_tick_11 : decode b_F_tick 11 = .ok (.iconst (-1), 1) := by decide +kernel
theorem d_F_tick_12 : decode b_F_tick 12 = .ok (.ireturn, 1) := by decide +kernel
theorem d_F_tick_13 : decode b_F_tick 13 = .ok (.iconst 0, 1) := by decide +kernel
theorem d_F_tick_14 : decode b_F_tick 14 = .ok (.istore_n 2, 1) := by decide +kernel
theorem d_F_tick_15 : decode b_F_tick 15 = .ok (.iconst 0, 1) := by decide +kernel
theorem d_F_tick_16 : decode b_F_tick 16 = .ok (.istore_n 3, 1) := by decide +kernel
theorem d_F_tick_17 : decode b_F_tick 17 = .ok (.iload_n 3, 1) := by decide +kernel
theorem d_F_tick_18 : decode b_F_tick 18 = .ok (.iload_n 1, 1) := by decide +kernel
theorem d_F_tick_19 : decode b_F_tick 19 = .ok (.if_icmp .ge 22, 3) := by decide +kernel
theorem d_F_tick_22 : decode b_F_tick 22 = .ok (.aload_n 0, 1) := by decide +kernel
theorem d_F_tick_23 : decode b_F_tick 23 = .ok (.getfield 10, 3) := by decide +kernel
theorem d_F_tick_26 : decode b_F_tick 26 = .ok (.invokevirtual 50, 3) := by decide +kernel
theorem d_F_tick_29 : decode b_F_tick 29 = .ok (.ifCond .eq 6, 3) := by decide +kernel
theorem d_F_tick_32 : decode b_F_tick 32 = .ok (.iinc 2 1, 3) := by decide +kernel
theorem d_F_tick_35 : decode b_F_tick 35 = .ok (.iinc 3 1, 3) := by decide +kernel
theorem d_F_tick_38 : decode b_F_tick 38 = .ok (.goto (-21), 3) := by decide +kernel
theorem d_F_tick_41 : decode b_F_tick 41 = .ok (.iload_n 2, 1) := by decide +kernel
theorem d_F_tick_42 : decode b_F_tick 42 = .ok (.ireturn, 1) := by decide +kernel
theorem d_F_lines_0 : decode b_F_lines 0 = .ok (.aload_n 0, 1) := by decide +kernel
theorem d_F_lines_1 : decode b_F_lines 1 = .ok (.getfield 10, 3) := by decide +kernel
theorem d_F_lines_4 : decode b_F_lines 4 = .ok (.getfield 37, 3) := by decide +kernel
theorem d_F_lines_7 : decode b_F_lines 7 = .ok (.iload_n 1, 1) := by decide +kernel
theorem d_F_lines_8 : decode b_F_lines 8 = .ok (.bipush 15, 2) := by decide +kernel
theorem d_F_lines_10 : decode b_F_lines 10 = .ok (.iand, 1) := by decide +kernel
theorem d_F_lines_11 : decode b_F_lines 11 = .ok (.invokevirtual 53, 3) := by decide +kernel
theorem d_F_lines_14 : decode b_F_lines 14 = .ok (.return_, 1) := by decide +kernel
theorem d_F_sent_0 : decode b_F_sent 0 = .ok (.aload_n 0, 1) := by decide +kernel
theorem d_F_sent_1 : decode b_F_sent 1 = .ok (.getfield 10, 3) := by decide +kernel
theorem d_F_sent_4 : decode b_F_sent 4 = .ok (.getfield 57, 3) := by decide +kernel
theorem d_F_sent_7 : decode b_F_sent 7 = .ok (.iload_n 1, 1) := by decide +kernel
theorem d_F_sent_8 : decode b_F_sent 8 = .ok (.invokevirtual 61, 3) := by decide +kernel
theorem d_F_sent_11 : decode b_F_sent 11 = .ok (.ireturn, 1) := by decide +kernel
theorem d_F_total_0 : decode b_F_total 0 = .ok (.aload_n 0, 1) := by decide +kernel
theorem d_F_total_1 : decode b_F_total 1 = .ok (.getfield 10, 3) := by decide +kernel
theorem d_F_total_4 : decode b_F_total 4 = .ok (.getfield 57, 3) := by decide +kernel
theorem d_F_total_7 : decode b_F_total 7 = .ok (.getfield 66, 3) := by decide +kernel
theorem d_F_total_10 : decode b_F_total 10 = .ok (.ireturn, 1) := by decide +kernel
theorem d_F_cause_0 : decode b_F_cause 0 = .ok (.aload_n 0, 1) := by decide +kernel
theorem d_F_cause_1 : decode b_F_cause 1 = .ok (.getfield 10, 3) := by decide +kernel
theorem d_F_cause_4 : decode b_F_cause 4 = .ok (.invokevirtual 70, 3) := by decide +kernel
theorem d_F_cause_7 : decode b_F_cause 7 = .ok (.ireturn, 1) := by decide +kernel
theorem d_F_start_0 : decode b_F_start 0 = .ok (.aload_n 0, 1) := by decide +kernel
theorem d_F_start_1 : decode b_F_start 1 = .ok (.getfield 21, 3) := by decide +kernel
theorem d_F_start_4 : decode b_F_start 4 = .ok (.invokevirtual 74, 3) := by decide +kernel
theorem d_F_start_7 : decode b_F_start 7 = .ok (.return_, 1) := by decide +kernel
theorem d_F_accept_0 : decode b_F_accept 0 = .ok (.aload_n 0, 1) := by decide +kernel
theorem d_F_accept_1 : decode b_F_accept 1 = .ok (.getfield 21, 3) := by decide +kernel
theorem d_F_accept_4 : decode b_F_accept 4 = .ok (.iload_n 1, 1) := by decide +kernel
theorem d_F_accept_5 : decode b_F_accept 5 = .ok (.sipush 255, 3) := by decide +kernel
theorem d_F_accept_8 : decode b_F_accept 8 = .ok (.iand, 1) := by decide +kernel
theorem d_F_accept_9 : decode b_F_accept 9 = .ok (.invokevirtual 77, 3) := by decide +kernel
theorem d_F_accept_12 : decode b_F_accept 12 = .ok (.ireturn, 1) := by decide +kernel
theorem d_F_take_0 : decode b_F_take 0 = .ok (.aload_n 0, 1) := by decide +kernel
theorem d_F_take_1 : decode b_F_take 1 = .ok (.getfield 21, 3) := by decide +kernel
theorem d_F_take_4 : decode b_F_take 4 = .ok (.invokevirtual 80, 3) := by decide +kernel
theorem d_F_take_7 : decode b_F_take 7 = .ok (.ireturn, 1) := by decide +kernel
theorem d_F_service_0 : decode b_F_service 0 = .ok (.iconst 0, 1) := by decide +kernel
theorem d_F_service_1 : decode b_F_service 1 = .ok (.istore_n 1, 1) := by decide +kernel
theorem d_F_service_2 : decode b_F_service 2 = .ok (.iload_n 1, 1) := by decide +kernel
theorem d_F_service_3 : decode b_F_service 3 = .ok (.bipush 8, 2) := by decide +kernel
theorem d_F_service_5 : decode b_F_service 5 = .ok (.if_icmp .ge 19, 3) := by decide +kernel
theorem d_F_service_8 : decode b_F_service 8 = .ok (.aload_n 0, 1) := by decide +kernel
theorem d_F_service_9 : decode b_F_service 9 = .ok (.getfield 21, 3) := by decide +kernel
theorem d_F_service_12 : decode b_F_service 12 = .ok (.invokevirtual 83, 3) := by decide +kernel
theorem d_F_service_15 : decode b_F_service 15 = .ok (.ifCond .eq 9, 3) := by decide +kernel
theorem d_F_service_18 : decode b_F_service 18 = .ok (.iinc 1 1, 3) := by decide +kernel
theorem d_F_service_21 : decode b_F_service 21 = .ok (.goto (-19), 3) := by decide +kernel
theorem d_F_service_24 : decode b_F_service 24 = .ok (.iload_n 1, 1) := by decide +kernel
theorem d_F_service_25 : decode b_F_service 25 = .ok (.ireturn, 1) := by decide +kernel
theorem d_F_count_0 : decode b_F_count 0 = .ok (.iload_n 1, 1) := by decide +kernel
theorem d_F_count_1 : decode b_F_count 1 = .ok (.tableswitch 75 0 3 #[31, 42, 53, 64], 31) := by decide +kernel
theorem d_F_count_32 : decode b_F_count 32 = .ok (.aload_n 0, 1) := by decide +kernel
theorem d_F_count_33 : decode b_F_count 33 = .ok (.getfield 21, 3) := by decide +kernel
theorem d_F_count_36 : decode b_F_count 36 = .ok (.getfield 86, 3) := by decide +kernel
theorem d_F_count_39 : decode b_F_count 39 = .ok (.getfield 90, 3) := by decide +kernel
theorem d_F_count_42 : decode b_F_count 42 = .ok (.ireturn, 1) := by decide +kernel
theorem d_F_count_43 : decode b_F_count 43 = .ok (.aload_n 0, 1) := by decide +kernel
theorem d_F_count_44 : decode b_F_count 44 = .ok (.getfield 21, 3) := by decide +kernel
theorem d_F_count_47 : decode b_F_count 47 = .ok (.getfield 93, 3) := by decide +kernel
theorem d_F_count_50 : decode b_F_count 50 = .ok (.getfield 90, 3) := by decide +kernel
theorem d_F_count_53 : decode b_F_count 53 = .ok (.ireturn, 1) := by decide +kernel
theorem d_F_count_54 : decode b_F_count 54 = .ok (.aload_n 0, 1) := by decide +kernel
theorem d_F_count_55 : decode b_F_count 55 = .ok (.getfield 10, 3) := by decide +kernel
theorem d_F_count_58 : decode b_F_count 58 = .ok (.getfield 96, 3) := by decide +kernel
theorem d_F_count_61 : decode b_F_count 61 = .ok (.getfield 90, 3) := by decide +kernel
theorem d_F_count_64 : decode b_F_count 64 = .ok (.ireturn, 1) := by decide +kernel
theorem d_F_count_65 : decode b_F_count 65 = .ok (.aload_n 0, 1) := by decide +kernel
theorem d_F_count_66 : decode b_F_count 66 = .ok (.getfield 10, 3) := by decide +kernel
theorem d_F_count_69 : decode b_F_count 69 = .ok (.getfield 99, 3) := by decide +kernel
theorem d_F_count_72 : decode b_F_count 72 = .ok (.getfield 90, 3) := by decide +kernel
theorem d_F_count_75 : decode b_F_count 75 = .ok (.ireturn, 1) := by decide +kernel
theorem d_F_count_76 : decode b_F_count 76 = .ok (.iconst (-1), 1) := by decide +kernel
theorem d_F_count_77 : decode b_F_count 77 = .ok (.ireturn, 1) := by decide +kernel
theorem d_F_flow_0 : decode b_F_flow 0 = .ok (.aload_n 0, 1) := by decide +kernel
theorem d_F_flow_1 : decode b_F_flow 1 = .ok (.getfield 21, 3) := by decide +kernel
theorem d_F_flow_4 : decode b_F_flow 4 = .ok (.invokevirtual 102, 3) := by decide +kernel
theorem d_F_flow_7 : decode b_F_flow 7 = .ok (.ireturn, 1) := by decide +kernel
theorem d_F_lost_0 : decode b_F_lost 0 = .ok (.aload_n 0, 1) := by decide +kernel
theorem d_F_lost_1 : decode b_F_lost 1 = .ok (.getfield 21, 3) := by decide +kernel
theorem d_F_lost_4 : decode b_F_lost 4 = .ok (.getfield 105, 3) := by decide +kernel
theorem d_F_lost_7 : decode b_F_lost 7 = .ok (.ireturn, 1) := by decide +kernel
theorem d_F_left_0 : decode b_F_left 0 = .ok (.aload_n 0, 1) := by decide +kernel
theorem d_F_left_1 : decode b_F_left 1 = .ok (.getfield 10, 3) := by decide +kernel
theorem d_F_left_4 : decode b_F_left 4 = .ok (.getfield 108, 3) := by decide +kernel
theorem d_F_left_7 : decode b_F_left 7 = .ok (.ireturn, 1) := by decide +kernel
theorem d_D_init_0 : decode b_D_init 0 = .ok (.aload_n 0, 1) := by decide +kernel
theorem d_D_init_1 : decode b_D_init 1 = .ok (.invokespecial 3, 3) := by decide +kernel
theorem d_D_init_4 : decode b_D_init 4 = .ok (.aload_n 0, 1) := by decide +kernel
theorem d_D_init_5 : decode b_D_init 5 = .ok (.new 9, 3) := by decide +kernel
theorem d_D_init_8 : decode b_D_init 8 = .ok (.dup, 1) := by decide +kernel
theorem d_D_init_9 : decode b_D_init 9 = .ok (.bipush 24, 2) := by decide +kernel
theorem d_D_init_11 : decode b_D_init 11 = .ok (.invokespecial 13, 3) := by decide +kernel
theorem d_D_init_14 : decode b_D_init 14 = .ok (.putfield 16, 3) := by decide +kernel
theorem d_D_init_17 : decode b_D_init 17 = .ok (.aload_n 0, 1) := by decide +kernel
theorem d_D_init_18 : decode b_D_init 18 = .ok (.new 9, 3) := by decide +kernel
theorem d_D_init_21 : decode b_D_init 21 = .ok (.dup, 1) := by decide +kernel
theorem d_D_init_22 : decode b_D_init 22 = .ok (.bipush 24, 2) := by decide +kernel
theorem d_D_init_24 : decode b_D_init 24 = .ok (.invokespecial 13, 3) := by decide +kernel
theorem d_D_init_27 : decode b_D_init 27 = .ok (.putfield 20, 3) := by decide +kernel
theorem d_D_init_30 : decode b_D_init 30 = .ok (.aload_n 0, 1) := by decide +kernel
theorem d_D_init_31 : decode b_D_init 31 = .ok (.iconst (-1), 1) := by decide +kernel
theorem d_D_init_32 : decode b_D_init 32 = .ok (.putfield 23, 3) := by decide +kernel
theorem d_D_init_35 : decode b_D_init 35 = .ok (.aload_n 0, 1) := by decide +kernel
theorem d_D_init_36 : decode b_D_init 36 = .ok (.aload_n 1, 1) := by decide +kernel
theorem d_D_init_37 : decode b_D_init 37 = .ok (.putfield 27, 3) := by decide +kernel
theorem d_D_init_40 : decode b_D_init 40 = .ok (.return_, 1) := by decide +kernel
theorem d_D_begin_0 : decode b_D_begin 0 = .ok (.aload_n 0, 1) := by decide +kernel
theorem d_D_begin_1 : decode b_D_begin 1 = .ok (.getfield 16, 3) := by decide +kernel
theorem d_D_begin_4 : decode b_D_begin 4 = .ok (.invokevirtual 31, 3) := by decide +kernel
theorem d_D_begin_7 : decode b_D_begin 7 = .ok (.aload_n 0, 1) := by decide +kernel
theorem d_D_begin_8 : decode b_D_begin 8 = .ok (.getfield 20, 3) := by decide +kernel
theorem d_D_begin_11 : decode b_D_begin 11 = .ok (.invokevirtual 31, 3) := by decide +kernel
theorem d_D_begin_14 : decode b_D_begin 14 = .ok (.aload_n 0, 1) := by decide +kernel
theorem d_D_begin_15 : decode b_D_begin 15 = .ok (.iconst 0, 1) := by decide +kernel
theorem d_D_begin_16 : decode b_D_begin 16 = .ok (.putfield 34, 3) := by decide +kernel
theorem d_D_begin_19 : decode b_D_begin 19 = .ok (.aload_n 0, 1) := by decide +kernel
theorem d_D_begin_20 : decode b_D_begin 20 = .ok (.iconst 0, 1) := by decide +kernel
theorem d_D_begin_21 : decode b_D_begin 21 = .ok (.putfield 38, 3) := by decide +kernel
theorem d_D_begin_24 : decode b_D_begin 24 = .ok (.aload_n 0, 1) := by decide +kernel
theorem d_D_begin_25 : decode b_D_begin 25 = .ok (.iconst (-1), 1) := by decide +kernel
theorem d_D_begin_26 : decode b_D_begin 26 = .ok (.putfield 23, 3) := by decide +kernel
theorem d_D_begin_29 : decode b_D_begin 29 = .ok (.aload_n 0, 1) := by decide +kernel
theorem d_D_begin_30 : decode b_D_begin 30 = .ok (.getfield 27, 3) := by decide +kernel
theorem d_D_begin_33 : decode b_D_begin 33 = .ok (.iconst 2, 1) := by decide +kernel
theorem d_D_begin_34 : decode b_D_begin 34 = .ok (.bipush 71, 2) := by decide +kernel
theorem d_D_begin_36 : decode b_D_begin 36 = .ok (.invokevirtual 41, 3) := by decide +kernel
theorem d_D_begin_39 : decode b_D_begin 39 = .ok (.aload_n 0, 1) := by decide +kernel
theorem d_D_begin_40 : decode b_D_begin 40 = .ok (.getfield 27, 3) := by decide +kernel
theorem d_D_begin_43 : decode b_D_begin 43 = .ok (.iconst 3, 1) := by decide +kernel
theorem d_D_begin_44 : decode b_D_begin 44 = .ok (.iconst 3, 1) := by decide +kernel
theorem d_D_begin_45 : decode b_D_begin 45 = .ok (.invokevirtual 41, 3) := by decide +kernel
theorem d_D_begin_48 : decode b_D_begin 48 = .ok (.aload_n 0, 1) := by decide +kernel
theorem d_D_begin_49 : decode b_D_begin 49 = .ok (.getfield 27, 3) := by decide +kernel
theorem d_D_begin_52 : decode b_D_begin 52 = .ok (.iconst 1, 1) := by decide +kernel
theorem d_D_begin_53 : decode b_D_begin 53 = .ok (.bipush 7, 2) := by decide +kernel
theorem d_D_begin_55 : decode b_D_begin 55 = .ok (.invokevirtual 41, 3) := by decide +kernel
theorem d_D_begin_58 : decode b_D_begin 58 = .ok (.return_, 1) := by decide +kernel
theorem d_D_queueForth_0 : decode b_D_queueForth 0 = .ok (.aload_n 0, 1) := by decide +kernel
theorem d_D_queueForth_1 : decode b_D_queueForth 1 = .ok (.getfield 16, 3) := by decide +kernel
theorem d_D_queueForth_4 : decode b_D_queueForth 4 = .ok (.invokevirtual 47, 3) := by decide +kernel
theorem d_D_queueForth_7 : decode b_D_queueForth 7 = .ok (.ifCond .eq 5, 3) := by decide +kernel
theorem d_D_queueForth_10 : decode b_D_queueForth 10 = .ok (.iconst 0, 1) := by decide +kernel
theorem d_D_queueForth_11 : decode b_D_queueForth 11 = .ok (.ireturn, 1) := by decide +kernel
theorem d_D_queueForth_12 : decode b_D_queueForth 12 = .ok (.aload_n 0, 1) := by decide +kernel
theorem d_D_queueForth_13 : decode b_D_queueForth 13 = .ok (.getfield 16, 3) := by decide +kernel
theorem d_D_queueForth_16 : decode b_D_queueForth 16 = .ok (.iload_n 1, 1) := by decide +kernel
theorem d_D_queueForth_17 : decode b_D_queueForth 17 = .ok (.invokevirtual 51, 3) := by decide +kernel
theorem d_D_queueForth_20 : decode b_D_queueForth 20 = .ok (.aload_n 0, 1) := by decide +kernel
theorem d_D_queueForth_21 : decode b_D_queueForth 21 = .ok (.invokevirtual 54, 3) := by decide +kernel
theorem d_D_queueForth_24 : decode b_D_queueForth 24 = .ok (.iconst 1, 1) := by decide +kernel
theorem d_D_queueForth_25 : decode b_D_queueForth 25 = .ok (.ireturn, 1) := by decide +kernel
theorem d_D_takeBack_0 : decode b_D_takeBack 0 = .ok (.aload_n 0, 1) := by decide +kernel
theorem d_D_takeBack_1 : decode b_D_takeBack 1 = .ok (.getfield 20, 3) := by decide +kernel
theorem d_D_takeBack_4 : decode b_D_takeBack 4 = .ok (.getfield 57, 3) := by decide +kernel
theorem d_D_takeBack_7 : decode b_D_takeBack 7 = .ok (.ifCond .ne 5, 3) := by decide +kernel
theorem d_D_takeBack_10 : decode b_D_takeBack 10 = .ok (.iconst (-1), 1) := by decide +kernel
theorem d_D_takeBack_11 : decode b_D_takeBack 11 = .ok (.ireturn, 1) := by decide +kernel
theorem d_D_takeBack_12 : decode b_D_takeBack 12 = .ok (.aload_n 0, 1) := by decide +kernel
theorem d_D_takeBack_13 : decode b_D_takeBack 13 = .ok (.getfield 20, 3) := by decide +kernel
theorem d_D_takeBack_16 : decode b_D_takeBack 16 = .ok (.invokevirtual 60, 3) := by decide +kernel
theorem d_D_takeBack_19 : decode b_D_takeBack 19 = .ok (.istore_n 1, 1) := by decide +kernel
theorem d_D_takeBack_20 : decode b_D_takeBack 20 = .ok (.aload_n 0, 1) := by decide +kernel
theorem d_D_takeBack_21 : decode b_D_takeBack 21 = .ok (.getfield 38, 3) := by decide +kernel
theorem d_D_takeBack_24 : decode b_D_takeBack 24 = .ok (.ifCond .eq 30, 3) := by decide +kernel
theorem d_D_takeBack_27 : decode b_D_takeBack 27 = .ok (.aload_n 0, 1) := by decide +kernel
theorem d_D_takeBack_28 : decode b_D_takeBack 28 = .ok (.getfield 20, 3) := by decide +kernel
theorem d_D_takeBack_31 : decode b_D_takeBack 31 = .ok (.getfield 57, 3) := by decide +kernel
theorem d_D_takeBack_34 : decode b_D_takeBack 34 = .ok (.bipush 6, 2) := by decide +kernel
theorem d_D_takeBack_36 : decode b_D_takeBack 36 = .ok (.if_icmp .gt 18, 3) := by decide +kernel
theorem d_D_takeBack_39 : decode b_D_takeBack 39 = .ok (.aload_n 0, 1) := by decide +kernel
theorem d_D_takeBack_40 : decode b_D_takeBack 40 = .ok (.bipush 17, 2) := by decide +kernel
theorem d_D_takeBack_42 : decode b_D_takeBack 42 = .ok (.putfield 23, 3) := by decide +kernel
theorem d_D_takeBack_45 : decode b_D_takeBack 45 = .ok (.aload_n 0, 1) := by decide +kernel
theorem d_D_takeBack_46 : decode b_D_takeBack 46 = .ok (.iconst 0, 1) := by decide +kernel
theorem d_D_takeBack_47 : decode b_D_takeBack 47 = .ok (.putfield 38, 3) := by decide +kernel
theorem d_D_takeBack_50 : decode b_D_takeBack 50 = .ok (.aload_n 0, 1) := by decide +kernel
theorem d_D_takeBack_51 : decode b_D_takeBack 51 = .ok (.invokevirtual 54, 3) := by decide +kernel
theorem d_D_takeBack_54 : decode b_D_takeBack 54 = .ok (.iload_n 1, 1) := by decide +kernel
theorem d_D_takeBack_55 : decode b_D_takeBack 55 = .ok (.ireturn, 1) := by decide +kernel
theorem d_D_wake_0 : decode b_D_wake 0 = .ok (.aload_n 0, 1) := by decide +kernel
theorem d_D_wake_1 : decode b_D_wake 1 = .ok (.getfield 27, 3) := by decide +kernel
theorem d_D_wake_4 : decode b_D_wake 4 = .ok (.iconst 1, 1) := by decide +kernel
theorem d_D_wake_5 : decode b_D_wake 5 = .ok (.aload_n 0, 1) := by decide +kernel
theorem d_D_wake_6 : decode b_D_wake 6 = .ok (.getfield 27, 3) := by decide +kernel
theorem d_D_wake_9 : decode b_D_wake 9 = .ok (.iconst 1, 1) := by decide +kernel
theorem d_D_wake_10 : decode b_D_wake 10 = .ok (.invokevirtual 64, 3) := by decide +kernel
theorem d_D_wake_13 : decode b_D_wake 13 = .ok (.iconst 2, 1) := by decide +kernel
theorem d_D_wake_14 : decode b_D_wake 14 = .ok (.ior, 1) := by decide +kernel
theorem d_D_wake_15 : decode b_D_wake 15 = .ok (.invokevirtual 41, 3) := by decide +kernel
theorem d_D_wake_18 : decode b_D_wake 18 = .ok (.return_, 1) := by decide +kernel
theorem d_D_runRound_0 : decode b_D_runRound 0 = .ok (.aload_n 0, 1) := by decide +kernel
theorem d_D_runRound_1 : decode b_D_runRound 1 = .ok (.getfield 27, 3) := by decide +kernel
theorem d_D_runRound_4 : decode b_D_runRound 4 = .ok (.iconst 2, 1) := by decide +kernel
theorem d_D_runRound_5 : decode b_D_runRound 5 = .ok (.invokevirtual 64, 3) := by decide +kernel
theorem d_D_runRound_8 : decode b_D_runRound 8 = .ok (.bipush 15, 2) := by decide +kernel
theorem d_D_runRound_10 : decode b_D_runRound 10 = .ok (.iand, 1) := by decide +kernel
theorem d_D_runRound_11 : decode b_D_runRound 11 = .ok (.tableswitch 96 0 12 #[84, 96, 78, 96, 72, 96, 65, 96, 96, 96, 96, 96, 72], 65) := by decide +kernel
theorem d_D_runRound_76 : decode b_D_runRound 76 = .ok (.aload_n 0, 1) := by decide +kernel
theorem d_D_runRound_77 : decode b_D_runRound 77 = .ok (.invokevirtual 68, 3) := by decide +kernel
theorem d_D_runRound_80 : decode b_D_runRound 80 = .ok (.pop, 1) := by decide +kernel
theorem d_D_runRound_81 : decode b_D_runRound 81 = .ok (.iconst 1, 1) := by decide +kernel
theorem d_D_runRound_82 : decode b_D_runRound 82 = .ok (.ireturn, 1) := by decide +kernel
theorem d_D_runRound_83 : decode b_D_runRound 83 = .ok (.aload_n 0, 1) := by decide +kernel
theorem d_D_runRound_84 : decode b_D_runRound 84 = .ok (.invokevirtual 71, 3) := by decide +kernel
theorem d_D_runRound_87 : decode b_D_runRound 87 = .ok (.iconst 1, 1) := by decide +kernel
theorem d_D_runRound_88 : decode b_D_runRound 88 = .ok (.ireturn, 1) := by decide +kernel
theorem d_D_runRound_89 : decode b_D_runRound 89 = .ok (.aload_n 0, 1) := by decide +kernel
theorem d_D_runRound_90 : decode b_D_runRound 90 = .ok (.invokevirtual 74, 3) := by decide +kernel
theorem d_D_runRound_93 : decode b_D_runRound 93 = .ok (.iconst 1, 1) := by decide +kernel
theorem d_D_runRound_94 : decode b_D_runRound 94 = .ok (.ireturn, 1) := by decide +kernel
theorem d_D_runRound_95 : decode b_D_runRound 95 = .ok (.aload_n 0, 1) := by decide +kernel
theorem d_D_runRound_96 : decode b_D_runRound 96 = .ok (.getfield 27, 3) := by decide +kernel
theorem d_D_runRound_99 : decode b_D_runRound 99 = .ok (.bipush 6, 2) := by decide +kernel
theorem d_D_runRound_101 : decode b_D_runRound 101 = .ok (.invokevirtual 64, 3) := by decide +kernel
theorem d_D_runRound_104 : decode b_D_runRound 104 = .ok (.pop, 1) := by decide +kernel
theorem d_D_runRound_105 : decode b_D_runRound 105 = .ok (.iconst 1, 1) := by decide +kernel
theorem d_D_runRound_106 : decode b_D_runRound 106 = .ok (.ireturn, 1) := by decide +kernel
theorem d_D_runRound_107 : decode b_D_runRound 107 = .ok (.iconst 0, 1) := by decide +kernel
theorem d_D_runRound_108 : decode b_D_runRound 108 = .ok (.ireturn, 1) := by decide +kernel
theorem d_D_readStatus_0 : decode b_D_readStatus 0 = .ok (.aload_n 0, 1) := by decide +kernel
theorem d_D_readStatus_1 : decode b_D_readStatus 1 = .ok (.getfield 27, 3) := by decide +kernel
theorem d_D_readStatus_4 : decode b_D_readStatus 4 = .ok (.iconst 5, 1) := by decide +kernel
theorem d_D_readStatus_5 : decode b_D_readStatus 5 = .ok (.invokevirtual 64, 3) := by decide +kernel
theorem d_D_readStatus_8 : decode b_D_readStatus 8 = .ok (.istore_n 1, 1) := by decide +kernel
theorem d_D_readStatus_9 : decode b_D_readStatus 9 = .ok (.iload_n 1, 1) := by decide +kernel
theorem d_D_readStatus_10 : decode b_D_readStatus 10 = .ok (.iconst 2, 1) := by decide +kernel
theorem d_D_readStatus_11 : decode b_D_readStatus 11 = .ok (.iand, 1) := by decide +kernel
theorem d_D_readStatus_12 : decode b_D_readStatus 12 = .ok (.ifCond .eq 13, 3) := by decide +kernel
theorem d_D_readStatus_15 : decode b_D_readStatus 15 = .ok (.aload_n 0, 1) := by decide +kernel
theorem d_D_readStatus_16 : decode b_D_readStatus 16 = .ok (.dup, 1) := by decide +kernel
theorem d_D_readStatus_17 : decode b_D_readStatus 17 = .ok (.getfield 77, 3) := by decide +kernel
theorem d_D_readStatus_20 : decode b_D_readStatus 20 = .ok (.iconst 1, 1) := by decide +kernel
theorem d_D_readStatus_21 : decode b_D_readStatus 21 = .ok (.iadd, 1) := by decide +kernel
theorem d_D_readStatus_22 : decode b_D_readStatus 22 = .ok (.putfield 77, 3) := by decide +kernel
theorem d_D_readStatus_25 : decode b_D_readStatus 25 = .ok (.iload_n 1, 1) := by decide +kernel
theorem d_D_readStatus_26 : decode b_D_readStatus 26 = .ok (.ireturn, 1) := by decide +kernel
theorem d_D_receive_0 : decode b_D_receive 0 = .ok (.iconst 1, 1) := by decide +kernel
theorem d_D_receive_1 : decode b_D_receive 1 = .ok (.istore_n 1, 1) := by decide +kernel
theorem d_D_receive_2 : decode b_D_receive 2 = .ok (.iload_n 1, 1) := by decide +kernel
theorem d_D_receive_3 : decode b_D_receive 3 = .ok (.bipush 17, 2) := by decide +kernel
theorem d_D_receive_5 : decode b_D_receive 5 = .ok (.if_icmp .gt 39, 3) := by decide +kernel
theorem d_D_receive_8 : decode b_D_receive 8 = .ok (.aload_n 0, 1) := by decide +kernel
theorem d_D_receive_9 : decode b_D_receive 9 = .ok (.invokevirtual 68, 3) := by decide +kernel
theorem d_D_receive_12 : decode b_D_receive 12 = .ok (.istore_n 2, 1) := by decide +kernel
theorem d_D_receive_13 : decode b_D_receive 13 = .ok (.iload_n 2, 1) := by decide +kernel
theorem d_D_receive_14 : decode b_D_receive 14 = .ok (.iconst 1, 1) := by decide +kernel
theorem d_D_receive_15 : decode b_D_receive 15 = .ok (.iand, 1) := by decide +kernel
theorem d_D_receive_16 : decode b_D_receive 16 = .ok (.ifCond .eq 9, 3) := by decide +kernel
theorem d_D_receive_19 : decode b_D_receive 19 = .ok (.iload_n 1, 1) := by decide +kernel
theorem d_D_receive_20 : decode b_D_receive 20 = .ok (.bipush 17, 2) := by decide +kernel
theorem d_D_receive_22 : decode b_D_receive 22 = .ok (.if_icmp .ne 4, 3) := by decide +kernel
theorem d_D_receive_25 : decode b_D_receive 25 = .ok (.return_, 1) := by decide +kernel
theorem d_D_receive_26 : decode b_D_receive 26 = .ok (.aload_n 0, 1) := by decide +kernel
theorem d_D_receive_27 : decode b_D_receive 27 = .ok (.aload_n 0, 1) := by decide +kernel
theorem d_D_receive_28 : decode b_D_receive 28 = .ok (.getfield 27, 3) := by decide +kernel
theorem d_D_receive_31 : decode b_D_receive 31 = .ok (.iconst 0, 1) := by decide +kernel
theorem d_D_receive_32 : decode b_D_receive 32 = .ok (.invokevirtual 64, 3) := by decide +kernel
theorem d_D_receive_35 : decode b_D_receive 35 = .ok (.invokevirtual 80, 3) := by decide +kernel
theorem d_D_receive_38 : decode b_D_receive 38 = .ok (.iinc 1 1, 3) := by decide +kernel
theorem d_D_receive_41 : decode b_D_receive 41 = .ok (.goto (-39), 3) := by decide +kernel
theorem d_D_receive_44 : decode b_D_receive 44 = .ok (.return_, 1) := by decide +kernel
theorem d_D_handle_0 : decode b_D_handle 0 = .ok (.iload_n 1, 1) := by decide +kernel
theorem d_D_handle_1 : decode b_D_handle 1 = .ok (.bipush 19, 2) := by decide +kernel
theorem d_D_handle_3 : decode b_D_handle 3 = .ok (.if_icmp .ne 11, 3) := by decide +kernel
theorem d_D_handle_6 : decode b_D_handle 6 = .ok (.aload_n 0, 1) := by decide +kernel
theorem d_D_handle_7 : decode b_D_handle 7 = .ok (.iconst 1, 1) := by decide +kernel
theorem d_D_handle_8 : decode b_D_handle 8 = .ok (.putfield 34, 3) := by decide +kernel
theorem d_D_handle_11 : decode b_D_handle 11 = .ok (.goto 86, 3) := by decide +kernel
theorem d_D_handle_14 : decode b_D_handle 14 = .ok (.iload_n 1, 1) := by decide +kernel
theorem d_D_handle_15 : decode b_D_handle 15 = .ok (.bipush 17, 2) := by decide +kernel
theorem d_D_handle_17 : decode b_D_handle 17 = .ok (.if_icmp .ne 15, 3) := by decide +kernel
theorem d_D_handle_20 : decode b_D_handle 20 = .ok (.aload_n 0, 1) := by decide +kernel
theorem d_D_handle_21 : decode b_D_handle 21 = .ok (.iconst 0, 1) := by decide +kernel
theorem d_D_handle_22 : decode b_D_handle 22 = .ok (.putfield 34, 3) := by decide +kernel
theorem d_D_handle_25 : decode b_D_handle 25 = .ok (.aload_n 0, 1) := by decide +kernel
theorem d_D_handle_26 : decode b_D_handle 26 = .ok (.invokevirtual 54, 3) := by decide +kernel
theorem d_D_handle_29 : decode b_D_handle 29 = .ok (.goto 68, 3) := by decide +kernel
theorem d_D_handle_32 : decode b_D_handle 32 = .ok (.aload_n 0, 1) := by decide +kernel
theorem d_D_handle_33 : decode b_D_handle 33 = .ok (.getfield 20, 3) := by decide +kernel
theorem d_D_handle_36 : decode b_D_handle 36 = .ok (.invokevirtual 47, 3) := by decide +kernel
theorem d_D_handle_39 : decode b_D_handle 39 = .ok (.ifCond .eq 16, 3) := by decide +kernel
theorem d_D_handle_42 : decode b_D_handle 42 = .ok (.aload_n 0, 1) := by decide +kernel
theorem d_D_handle_43 : decode b_D_handle 43 = .ok (.dup, 1) := by decide +kernel
theorem d_D_handle_44 : decode b_D_handle 44 = .ok (.getfield 77, 3) := by decide +kernel
theorem d_D_handle_47 : decode b_D_handle 47 = .ok (.iconst 1, 1) := by decide +kernel
theorem d_D_handle_48 : decode b_D_handle 48 = .ok (.iadd, 1) := by decide +kernel
theorem d_D_handle_49 : decode b_D_handle 49 = .ok (.putfield 77, 3) := by decide +kernel
theorem d_D_handle_52 : decode b_D_handle 52 = .ok (.goto 45, 3) := by decide +kernel
theorem d_D_handle_55 : decode b_D_handle 55 = .ok (.aload_n 0, 1) := by decide +kernel
theorem d_D_handle_56 : decode b_D_handle 56 = .ok (.getfield 20, 3) := by decide +kernel
theorem d_D_handle_59 : decode b_D_handle 59 = .ok (.iload_n 1, 1) := by decide +kernel
theorem d_D_handle_60 : decode b_D_handle 60 = .ok (.invokevirtual 51, 3) := by decide +kernel
theorem d_D_handle_63 : decode b_D_handle 63 = .ok (.aload_n 0, 1) := by decide +kernel
theorem d_D_handle_64 : decode b_D_handle 64 = .ok (.getfield 20, 3) := by decide +kernel
theorem d_D_handle_67 : decode b_D_handle 67 = .ok (.getfield 57, 3) := by decide +kernel
theorem d_D_handle_70 : decode b_D_handle 70 = .ok (.bipush 18, 2) := by decide +kernel
theorem d_D_handle_72 : decode b_D_handle 72 = .ok (.if_icmp .lt 25, 3) := by decide +kernel
theorem d_D_handle_75 : decode b_D_handle 75 = .ok (.aload_n 0, 1) := by decide +kernel
theorem d_D_handle_76 : decode b_D_handle 76 = .ok (.getfield 38, 3) := by decide +kernel
theorem d_D_handle_79 : decode b_D_handle 79 = .ok (.ifCond .ne 18, 3) := by decide +kernel
theorem d_D_handle_82 : decode b_D_handle 82 = .ok (.aload_n 0, 1) := by decide +kernel
theorem d_D_handle_83 : decode b_D_handle 83 = .ok (.bipush 19, 2) := by decide +kernel
theorem d_D_handle_85 : decode b_D_handle 85 = .ok (.putfield 23, 3) := by decide +kernel
theorem d_D_handle_88 : decode b_D_handle 88 = .ok (.aload_n 0, 1) := by decide +kernel
theorem d_D_handle_89 : decode b_D_handle 89 = .ok (.iconst 1, 1) := by decide +kernel
theorem d_D_handle_90 : decode b_D_handle 90 = .ok (.putfield 38, 3) := by decide +kernel
theorem d_D_handle_93 : decode b_D_handle 93 = .ok (.aload_n 0, 1) := by decide +kernel
theorem d_D_handle_94 : decode b_D_handle 94 = .ok (.invokevirtual 54, 3) := by decide +kernel
theorem d_D_handle_97 : decode b_D_handle 97 = .ok (.return_, 1) := by decide +kernel
theorem d_D_transmit_0 : decode b_D_transmit 0 = .ok (.iconst 0, 1) := by decide +kernel
theorem d_D_transmit_1 : decode b_D_transmit 1 = .ok (.istore_n 1, 1) := by decide +kernel
theorem d_D_transmit_2 : decode b_D_transmit 2 = .ok (.aload_n 0, 1) := by decide +kernel
theorem d_D_transmit_3 : decode b_D_transmit 3 = .ok (.getfield 23, 3) := by decide +kernel
theorem d_D_transmit_6 : decode b_D_transmit 6 = .ok (.iconst (-1), 1) := by decide +kernel
theorem d_D_transmit_7 : decode b_D_transmit 7 = .ok (.if_icmp .eq 22, 3) := by decide +kernel
theorem d_D_transmit_10 : decode b_D_transmit 10 = .ok (.aload_n 0, 1) := by decide +kernel
theorem d_D_transmit_11 : decode b_D_transmit 11 = .ok (.getfield 27, 3) := by decide +kernel
theorem d_D_transmit_14 : decode b_D_transmit 14 = .ok (.iconst 0, 1) := by decide +kernel
theorem d_D_transmit_15 : decode b_D_transmit 15 = .ok (.aload_n 0, 1) := by decide +kernel
theorem d_D_transmit_16 : decode b_D_transmit 16 = .ok (.getfield 23, 3) := by decide +kernel
theorem d_D_transmit_19 : decode b_D_transmit 19 = .ok (.invokevirtual 41, 3) := by decide +kernel
theorem d_D_transmit_22 : decode b_D_transmit 22 = .ok (.aload_n 0, 1) := by decide +kernel
theorem d_D_transmit_23 : decode b_D_transmit 23 = .ok (.iconst (-1), 1) := by decide +kernel
theorem d_D_transmit_24 : decode b_D_transmit 24 = .ok (.putfield 23, 3) := by decide +kernel
theorem d_D_transmit_27 : decode b_D_transmit 27 = .ok (.iconst 1, 1) := by decide +kernel
theorem d_D_transmit_28 : decode b_D_transmit 28 = .ok (.istore_n 1, 1) := by decide +kernel
theorem d_D_transmit_29 : decode b_D_transmit 29 = .ok (.iload_n 1, 1) := by decide +kernel
theorem d_D_transmit_30 : decode b_D_transmit 30 = .ok (.bipush 16, 2) := by decide +kernel
theorem d_D_transmit_32 : decode b_D_transmit 32 = .ok (.if_icmp .ge 41, 3) := by decide +kernel
theorem d_D_transmit_35 : decode b_D_transmit 35 = .ok (.aload_n 0, 1) := by decide +kernel
theorem d_D_transmit_36 : decode b_D_transmit 36 = .ok (.getfield 34, 3) := by decide +kernel
theorem d_D_transmit_39 : decode b_D_transmit 39 = .ok (.ifCond .ne 34, 3) := by decide +kernel
theorem d_D_transmit_42 : decode b_D_transmit 42 = .ok (.aload_n 0, 1) := by decide +kernel
theorem d_D_transmit_43 : decode b_D_transmit 43 = .ok (.getfield 16, 3) := by decide +kernel
theorem d_D_transmit_46 : decode b_D_transmit 46 = .ok (.getfield 57, 3) := by decide +kernel
theorem d_D_transmit_49 : decode b_D_transmit 49 = .ok (.ifCond .le 24, 3) := by decide +kernel
theorem d_D_transmit_52 : decode b_D_transmit 52 = .ok (.aload_n 0, 1) := by decide +kernel
theorem d_D_transmit_53 : decode b_D_transmit 53 = .ok (.getfield 27, 3) := by decide +kernel
theorem d_D_transmit_56 : decode b_D_transmit 56 = .ok (.iconst 0, 1) := by decide +kernel
theorem d_D_transmit_57 : decode b_D_transmit 57 = .ok (.aload_n 0, 1) := by decide +kernel
theorem d_D_transmit_58 : decode b_D_transmit 58 = .ok (.getfield 16, 3) := by decide +kernel
theorem d_D_transmit_61 : decode b_D_transmit 61 = .ok (.invokevirtual 60, 3) := by decide +kernel
theorem d_D_transmit_64 : decode b_D_transmit 64 = .ok (.invokevirtual 41, 3) := by decide +kernel
theorem d_D_transmit_67 : decode b_D_transmit 67 = .ok (.iinc 1 1, 3) := by decide +kernel
theorem d_D_transmit_70 : decode b_D_transmit 70 = .ok (.goto (-41), 3) := by decide +kernel
theorem d_D_transmit_73 : decode b_D_transmit 73 = .ok (.iload_n 1, 1) := by decide +kernel
theorem d_D_transmit_74 : decode b_D_transmit 74 = .ok (.ifCond .ne 22, 3) := by decide +kernel
theorem d_D_transmit_77 : decode b_D_transmit 77 = .ok (.aload_n 0, 1) := by decide +kernel
theorem d_D_transmit_78 : decode b_D_transmit 78 = .ok (.getfield 27, 3) := by decide +kernel
theorem d_D_transmit_81 : decode b_D_transmit 81 = .ok (.iconst 1, 1) := by decide +kernel
theorem d_D_transmit_82 : decode b_D_transmit 82 = .ok (.aload_n 0, 1) := by decide +kernel
theorem d_D_transmit_83 : decode b_D_transmit 83 = .ok (.getfield 27, 3) := by decide +kernel
theorem d_D_transmit_86 : decode b_D_transmit 86 = .ok (.iconst 1, 1) := by decide +kernel
theorem d_D_transmit_87 : decode b_D_transmit 87 = .ok (.invokevirtual 64, 3) := by decide +kernel
theorem d_D_transmit_90 : decode b_D_transmit 90 = .ok (.bipush (-3), 2) := by decide +kernel
theorem d_D_transmit_92 : decode b_D_transmit 92 = .ok (.iand, 1) := by decide +kernel
theorem d_D_transmit_93 : decode b_D_transmit 93 = .ok (.invokevirtual 41, 3) := by decide +kernel
theorem d_D_transmit_96 : decode b_D_transmit 96 = .ok (.return_, 1) := by decide +kernel
theorem d_D_flowBits_0 : decode b_D_flowBits 0 = .ok (.aload_n 0, 1) := by decide +kernel
theorem d_D_flowBits_1 : decode b_D_flowBits 1 = .ok (.getfield 34, 3) := by decide +kernel
theorem d_D_flowBits_4 : decode b_D_flowBits 4 = .ok (.ifCond .eq 7, 3) := by decide +kernel
theorem d_D_flowBits_7 : decode b_D_flowBits 7 = .ok (.iconst 1, 1) := by decide +kernel
theorem d_D_flowBits_8 : decode b_D_flowBits 8 = .ok (.goto 4, 3) := by decide +kernel
theorem d_D_flowBits_11 : decode b_D_flowBits 11 = .ok (.iconst 0, 1) := by decide +kernel
theorem d_D_flowBits_12 : decode b_D_flowBits 12 = .ok (.istore_n 1, 1) := by decide +kernel
theorem d_D_flowBits_13 : decode b_D_flowBits 13 = .ok (.iload_n 1, 1) := by decide +kernel
theorem d_D_flowBits_14 : decode b_D_flowBits 14 = .ok (.aload_n 0, 1) := by decide +kernel
theorem d_D_flowBits_15 : decode b_D_flowBits 15 = .ok (.getfield 38, 3) := by decide +kernel
theorem d_D_flowBits_18 : decode b_D_flowBits 18 = .ok (.ifCond .eq 7, 3) := by decide +kernel
theorem d_D_flowBits_21 : decode b_D_flowBits 21 = .ok (.iconst 2, 1) := by decide +kernel
theorem d_D_flowBits_22 : decode b_D_flowBits 22 = .ok (.goto 4, 3) := by decide +kernel
theorem d_D_flowBits_25 : decode b_D_flowBits 25 = .ok (.iconst 0, 1) := by decide +kernel
theorem d_D_flowBits_26 : decode b_D_flowBits 26 = .ok (.iadd, 1) := by decide +kernel
theorem d_D_flowBits_27 : decode b_D_flowBits 27 = .ok (.istore_n 1, 1) := by decide +kernel
theorem d_D_flowBits_28 : decode b_D_flowBits 28 = .ok (.iload_n 1, 1) := by decide +kernel
theorem d_D_flowBits_29 : decode b_D_flowBits 29 = .ok (.aload_n 0, 1) := by decide +kernel
theorem d_D_flowBits_30 : decode b_D_flowBits 30 = .ok (.getfield 23, 3) := by decide +kernel
theorem d_D_flowBits_33 : decode b_D_flowBits 33 = .ok (.bipush 17, 2) := by decide +kernel
theorem d_D_flowBits_35 : decode b_D_flowBits 35 = .ok (.if_icmp .ne 7, 3) := by decide +kernel
theorem d_D_flowBits_38 : decode b_D_flowBits 38 = .ok (.iconst 4, 1) := by decide +kernel
theorem d_D_flowBits_39 : decode b_D_flowBits 39 = .ok (.goto 4, 3) := by decide +kernel
theorem d_D_flowBits_42 : decode b_D_flowBits 42 = .ok (.iconst 0, 1) := by decide +kernel
theorem d_D_flowBits_43 : decode b_D_flowBits 43 = .ok (.iadd, 1) := by decide +kernel
theorem d_D_flowBits_44 : decode b_D_flowBits 44 = .ok (.istore_n 1, 1) := by decide +kernel
theorem d_D_flowBits_45 : decode b_D_flowBits 45 = .ok (.iload_n 1, 1) := by decide +kernel
theorem d_D_flowBits_46 : decode b_D_flowBits 46 = .ok (.aload_n 0, 1) := by decide +kernel
theorem d_D_flowBits_47 : decode b_D_flowBits 47 = .ok (.getfield 23, 3) := by decide +kernel
theorem d_D_flowBits_50 : decode b_D_flowBits 50 = .ok (.bipush 19, 2) := by decide +kernel
theorem d_D_flowBits_52 : decode b_D_flowBits 52 = .ok (.if_icmp .ne 8, 3) := by decide +kernel
theorem d_D_flowBits_55 : decode b_D_flowBits 55 = .ok (.bipush 8, 2) := by decide +kernel
theorem d_D_flowBits_57 : decode b_D_flowBits 57 = .ok (.goto 4, 3) := by decide +kernel
theorem d_D_flowBits_60 : decode b_D_flowBits 60 = .ok (.iconst 0, 1) := by decide +kernel
theorem d_D_flowBits_61 : decode b_D_flowBits 61 = .ok (.iadd, 1) := by decide +kernel
theorem d_D_flowBits_62 : decode b_D_flowBits 62 = .ok (.istore_n 1, 1) := by decide +kernel
theorem d_D_flowBits_63 : decode b_D_flowBits 63 = .ok (.iload_n 1, 1) := by decide +kernel
theorem d_D_flowBits_64 : decode b_D_flowBits 64 = .ok (.ireturn, 1) := by decide +kernel
theorem d_M_init_0 : decode b_M_init 0 = .ok (.aload_n 0, 1) := by decide +kernel
theorem d_M_init_1 : decode b_M_init 1 = .ok (.invokespecial 1, 3) := by decide +kernel
theorem d_M_init_4 : decode b_M_init 4 = .ok (.return_, 1) := by decide +kernel
theorem d_M_isLooped_0 : decode b_M_isLooped 0 = .ok (.aload_n 0, 1) := by decide +kernel
theorem d_M_isLooped_1 : decode b_M_isLooped 1 = .ok (.getfield 7, 3) := by decide +kernel
theorem d_M_isLooped_4 : decode b_M_isLooped 4 = .ok (.bipush 16, 2) := by decide +kernel
theorem d_M_isLooped_6 : decode b_M_isLooped 6 = .ok (.iand, 1) := by decide +kernel
theorem d_M_isLooped_7 : decode b_M_isLooped 7 = .ok (.ifCond .eq 7, 3) := by decide +kernel
theorem d_M_isLooped_10 : decode b_M_isLooped 10 = .ok (.iconst 1, 1) := by decide +kernel
theorem d_M_isLooped_11 : decode b_M_isLooped 11 = .ok (.goto 4, 3) := by decide +kernel
theorem d_M_isLooped_14 : decode b_M_isLooped 14 = .ok (.iconst 0, 1) := by decide +kernel
theorem d_M_isLooped_15 : decode b_M_isLooped 15 = .ok (.ireturn, 1) := by decide +kernel
theorem d_M_inputs_0 : decode b_M_inputs 0 = .ok (.aload_n 0, 1) := by decide +kernel
theorem d_M_inputs_1 : decode b_M_inputs 1 = .ok (.invokevirtual 13, 3) := by decide +kernel
theorem d_M_inputs_4 : decode b_M_inputs 4 = .ok (.ifCond .ne 8, 3) := by decide +kernel
theorem d_M_inputs_7 : decode b_M_inputs 7 = .ok (.aload_n 0, 1) := by decide +kernel
theorem d_M_inputs_8 : decode b_M_inputs 8 = .ok (.getfield 17, 3) := by decide +kernel
theorem d_M_inputs_11 : decode b_M_inputs 11 = .ok (.ireturn, 1) := by decide +kernel
theorem d_M_inputs_12 : decode b_M_inputs 12 = .ok (.aload_n 0, 1) := by decide +kernel
theorem d_M_inputs_13 : decode b_M_inputs 13 = .ok (.getfield 7, 3) := by decide +kernel
theorem d_M_inputs_16 : decode b_M_inputs 16 = .ok (.bipush 12, 2) := by decide +kernel
theorem d_M_inputs_18 : decode b_M_inputs 18 = .ok (.iand, 1) := by decide +kernel
theorem d_M_inputs_19 : decode b_M_inputs 19 = .ok (.aload_n 0, 1) := by decide +kernel
theorem d_M_inputs_20 : decode b_M_inputs 20 = .ok (.getfield 7, 3) := by decide +kernel
theorem d_M_inputs_23 : decode b_M_inputs 23 = .ok (.iconst 1, 1) := by decide +kernel
theorem d_M_inputs_24 : decode b_M_inputs 24 = .ok (.iand, 1) := by decide +kernel
theorem d_M_inputs_25 : decode b_M_inputs 25 = .ok (.iconst 1, 1) := by decide +kernel
theorem d_M_inputs_26 : decode b_M_inputs 26 = .ok (.ishl, 1) := by decide +kernel
theorem d_M_inputs_27 : decode b_M_inputs 27 = .ok (.ior, 1) := by decide +kernel
theorem d_M_inputs_28 : decode b_M_inputs 28 = .ok (.aload_n 0, 1) := by decide +kernel
theorem d_M_inputs_29 : decode b_M_inputs 29 = .ok (.getfield 7, 3) := by decide +kernel
theorem d_M_inputs_32 : decode b_M_inputs 32 = .ok (.iconst 1, 1) := by decide +kernel
theorem d_M_inputs_33 : decode b_M_inputs 33 = .ok (.ishr, 1) := by decide +kernel
theorem d_M_inputs_34 : decode b_M_inputs 34 = .ok (.iconst 1, 1) := by decide +kernel
theorem d_M_inputs_35 : decode b_M_inputs 35 = .ok (.iand, 1) := by decide +kernel
theorem d_M_inputs_36 : decode b_M_inputs 36 = .ok (.ior, 1) := by decide +kernel
theorem d_M_inputs_37 : decode b_M_inputs 37 = .ok (.ireturn, 1) := by decide +kernel
theorem d_M_setLines_0 : decode b_M_setLines 0 = .ok (.aload_n 0, 1) := by decide +kernel
theorem d_M_setLines_1 : decode b_M_setLines 1 = .ok (.invokevirtual 20, 3) := by decide +kernel
theorem d_M_setLines_4 : decode b_M_setLines 4 = .ok (.istore_n 2, 1) := by decide +kernel
theorem d_M_setLines_5 : decode b_M_setLines 5 = .ok (.aload_n 0, 1) := by decide +kernel
theorem d_M_setLines_6 : decode b_M_setLines 6 = .ok (.iload_n 1, 1) := by decide +kernel
theorem d_M_setLines_7 : decode b_M_setLines 7 = .ok (.putfield 17, 3) := by decide +kernel
theorem d_M_setLines_10 : decode b_M_setLines 10 = .ok (.aload_n 0, 1) := by decide +kernel
theorem d_M_setLines_11 : decode b_M_setLines 11 = .ok (.iload_n 2, 1) := by decide +kernel
theorem d_M_setLines_12 : decode b_M_setLines 12 = .ok (.invokevirtual 24, 3) := by decide +kernel
theorem d_M_setLines_15 : decode b_M_setLines 15 = .ok (.return_, 1) := by decide +kernel
theorem d_M_setControl_0 : decode b_M_setControl 0 = .ok (.aload_n 0, 1) := by decide +kernel
theorem d_M_setControl_1 : decode b_M_setControl 1 = .ok (.invokevirtual 20, 3) := by decide +kernel
theorem d_M_setControl_4 : decode b_M_setControl 4 = .ok (.istore_n 2, 1) := by decide +kernel
theorem d_M_setControl_5 : decode b_M_setControl 5 = .ok (.aload_n 0, 1) := by decide +kernel
theorem d_M_setControl_6 : decode b_M_setControl 6 = .ok (.iload_n 1, 1) := by decide +kernel
theorem d_M_setControl_7 : decode b_M_setControl 7 = .ok (.putfield 7, 3) := by decide +kernel
theorem d_M_setControl_10 : decode b_M_setControl 10 = .ok (.aload_n 0, 1) := by decide +kernel
theorem d_M_setControl_11 : decode b_M_setControl 11 = .ok (.iload_n 2, 1) := by decide +kernel
theorem d_M_setControl_12 : decode b_M_setControl 12 = .ok (.invokevirtual 24, 3) := by decide +kernel
theorem d_M_setControl_15 : decode b_M_setControl 15 = .ok (.return_, 1) := by decide +kernel
theorem d_M_noteChanges_0 : decode b_M_noteChanges 0 = .ok (.aload_n 0, 1) := by decide +kernel
theorem d_M_noteChanges_1 : decode b_M_noteChanges 1 = .ok (.invokevirtual 20, 3) := by decide +kernel
theorem d_M_noteChanges_4 : decode b_M_noteChanges 4 = .ok (.istore_n 2, 1) := by decide +kernel
theorem d_M_noteChanges_5 : decode b_M_noteChanges 5 = .ok (.aload_n 0, 1) := by decide +kernel
theorem d_M_noteChanges_6 : decode b_M_noteChanges 6 = .ok (.dup, 1) := by decide +kernel
theorem d_M_noteChanges_7 : decode b_M_noteChanges 7 = .ok (.getfield 28, 3) := by decide +kernel
theorem d_M_noteChanges_10 : decode b_M_noteChanges 10 = .ok (.iload_n 1, 1) := by decide +kernel
theorem d_M_noteChanges_11 : decode b_M_noteChanges 11 = .ok (.iload_n 2, 1) := by decide +kernel
theorem d_M_noteChanges_12 : decode b_M_noteChanges 12 = .ok (.ixor, 1) := by decide +kernel
theorem d_M_noteChanges_13 : decode b_M_noteChanges 13 = .ok (.bipush 11, 2) := by decide +kernel
theorem d_M_noteChanges_15 : decode b_M_noteChanges 15 = .ok (.iand, 1) := by decide +kernel
theorem d_M_noteChanges_16 : decode b_M_noteChanges 16 = .ok (.ior, 1) := by decide +kernel
theorem d_M_noteChanges_17 : decode b_M_noteChanges 17 = .ok (.putfield 28, 3) := by decide +kernel
theorem d_M_noteChanges_20 : decode b_M_noteChanges 20 = .ok (.aload_n 0, 1) := by decide +kernel
theorem d_M_noteChanges_21 : decode b_M_noteChanges 21 = .ok (.dup, 1) := by decide +kernel
theorem d_M_noteChanges_22 : decode b_M_noteChanges 22 = .ok (.getfield 28, 3) := by decide +kernel
theorem d_M_noteChanges_25 : decode b_M_noteChanges 25 = .ok (.iload_n 1, 1) := by decide +kernel
theorem d_M_noteChanges_26 : decode b_M_noteChanges 26 = .ok (.iload_n 2, 1) := by decide +kernel
theorem d_M_noteChanges_27 : decode b_M_noteChanges 27 = .ok (.iconst (-1), 1) := by decide +kernel
theorem d_M_noteChanges_28 : decode b_M_noteChanges 28 = .ok (.ixor, 1) := by decide +kernel
theorem d_M_noteChanges_29 : decode b_M_noteChanges 29 = .ok (.iand, 1) := by decide +kernel
theorem d_M_noteChanges_30 : decode b_M_noteChanges 30 = .ok (.iconst 4, 1) := by decide +kernel
theorem d_M_noteChanges_31 : decode b_M_noteChanges 31 = .ok (.iand, 1) := by decide +kernel
theorem d_M_noteChanges_32 : decode b_M_noteChanges 32 = .ok (.ior, 1) := by decide +kernel
theorem d_M_noteChanges_33 : decode b_M_noteChanges 33 = .ok (.putfield 28, 3) := by decide +kernel
theorem d_M_noteChanges_36 : decode b_M_noteChanges 36 = .ok (.return_, 1) := by decide +kernel
theorem d_M_readChanges_0 : decode b_M_readChanges 0 = .ok (.aload_n 0, 1) := by decide +kernel
theorem d_M_readChanges_1 : decode b_M_readChanges 1 = .ok (.getfield 28, 3) := by decide +kernel
theorem d_M_readChanges_4 : decode b_M_readChanges 4 = .ok (.bipush 16, 2) := by decide +kernel
theorem d_M_readChanges_6 : decode b_M_readChanges 6 = .ok (.aload_n 0, 1) := by decide +kernel
theorem d_M_readChanges_7 : decode b_M_readChanges 7 = .ok (.invokevirtual 20, 3) := by decide +kernel
theorem d_M_readChanges_10 : decode b_M_readChanges 10 = .ok (.imul, 1) := by decide +kernel
theorem d_M_readChanges_11 : decode b_M_readChanges 11 = .ok (.iadd, 1) := by decide +kernel
theorem d_M_readChanges_12 : decode b_M_readChanges 12 = .ok (.istore_n 1, 1) := by decide +kernel
theorem d_M_readChanges_13 : decode b_M_readChanges 13 = .ok (.aload_n 0, 1) := by decide +kernel
theorem d_M_readChanges_14 : decode b_M_readChanges 14 = .ok (.iconst 0, 1) := by decide +kernel
theorem d_M_readChanges_15 : decode b_M_readChanges 15 = .ok (.putfield 28, 3) := by decide +kernel
theorem d_M_readChanges_18 : decode b_M_readChanges 18 = .ok (.iload_n 1, 1) := by decide +kernel
theorem d_M_readChanges_19 : decode b_M_readChanges 19 = .ok (.ireturn, 1) := by decide +kernel
theorem d_R_init_0 : decode b_R_init 0 = .ok (.aload_n 0, 1) := by decide +kernel
theorem d_R_init_1 : decode b_R_init 1 = .ok (.invokespecial 1, 3) := by decide +kernel
theorem d_R_init_4 : decode b_R_init 4 = .ok (.aload_n 0, 1) := by decide +kernel
theorem d_R_init_5 : decode b_R_init 5 = .ok (.bipush 32, 2) := by decide +kernel
theorem d_R_init_7 : decode b_R_init 7 = .ok (.newarray .int, 2) := by decide +kernel
theorem d_R_init_9 : decode b_R_init 9 = .ok (.putfield 9, 3) := by decide +kernel
theorem d_R_init_12 : decode b_R_init 12 = .ok (.aload_n 0, 1) := by decide +kernel
theorem d_R_init_13 : decode b_R_init 13 = .ok (.iload_n 1, 1) := by decide +kernel
theorem d_R_init_14 : decode b_R_init 14 = .ok (.putfield 13, 3) := by decide +kernel
theorem d_R_init_17 : decode b_R_init 17 = .ok (.return_, 1) := by decide +kernel
theorem d_R_isFull_0 : decode b_R_isFull 0 = .ok (.aload_n 0, 1) := by decide +kernel
theorem d_R_isFull_1 : decode b_R_isFull 1 = .ok (.getfield 17, 3) := by decide +kernel
theorem d_R_isFull_4 : decode b_R_isFull 4 = .ok (.aload_n 0, 1) := by decide +kernel
theorem d_R_isFull_5 : decode b_R_isFull 5 = .ok (.getfield 13, 3) := by decide +kernel
theorem d_R_isFull_8 : decode b_R_isFull 8 = .ok (.if_icmp .lt 7, 3) := by decide +kernel
theorem d_R_isFull_11 : decode b_R_isFull 11 = .ok (.iconst 1, 1) := by decide +kernel
theorem d_R_isFull_12 : decode b_R_isFull 12 = .ok (.goto 4, 3) := by decide +kernel
theorem d_R_isFull_15 : decode b_R_isFull 15 = .ok (.iconst 0, 1) := by decide +kernel
theorem d_R_isFull_16 : decode b_R_isFull 16 = .ok (.ireturn, 1) := by decide +kernel
theorem d_R_clear_0 : decode b_R_clear 0 = .ok (.aload_n 0, 1) := by decide +kernel
theorem d_R_clear_1 : decode b_R_clear 1 = .ok (.iconst 0, 1) := by decide +kernel
theorem d_R_clear_2 : decode b_R_clear 2 = .ok (.putfield 17, 3) := by decide +kernel
theorem d_R_clear_5 : decode b_R_clear 5 = .ok (.return_, 1) := by decide +kernel
theorem d_R_append_0 : decode b_R_append 0 = .ok (.aload_n 0, 1) := by decide +kernel
theorem d_R_append_1 : decode b_R_append 1 = .ok (.getfield 17, 3) := by decide +kernel
theorem d_R_append_4 : decode b_R_append 4 = .ok (.aload_n 0, 1) := by decide +kernel
theorem d_R_append_5 : decode b_R_append 5 = .ok (.getfield 13, 3) := by decide +kernel
theorem d_R_append_8 : decode b_R_append 8 = .ok (.if_icmp .ge 31, 3) := by decide +kernel
theorem d_R_append_11 : decode b_R_append 11 = .ok (.aload_n 0, 1) := by decide +kernel
theorem d_R_append_12 : decode b_R_append 12 = .ok (.getfield 9, 3) := by decide +kernel
theorem d_R_append_15 : decode b_R_append 15 = .ok (.aload_n 0, 1) := by decide +kernel
theorem d_R_append_16 : decode b_R_append 16 = .ok (.getfield 20, 3) := by decide +kernel
theorem d_R_append_19 : decode b_R_append 19 = .ok (.aload_n 0, 1) := by decide +kernel
theorem d_R_append_20 : decode b_R_append 20 = .ok (.getfield 17, 3) := by decide +kernel
theorem d_R_append_23 : decode b_R_append 23 = .ok (.iadd, 1) := by decide +kernel
theorem d_R_append_24 : decode b_R_append 24 = .ok (.bipush 31, 2) := by decide +kernel
theorem d_R_append_26 : decode b_R_append 26 = .ok (.iand, 1) := by decide +kernel
theorem d_R_append_27 : decode b_R_append 27 = .ok (.iload_n 1, 1) := by decide +kernel
theorem d_R_append_28 : decode b_R_append 28 = .ok (.iastore, 1) := by decide +kernel
theorem d_R_append_29 : decode b_R_append 29 = .ok (.aload_n 0, 1) := by decide +kernel
theorem d_R_append_30 : decode b_R_append 30 = .ok (.dup, 1) := by decide +kernel
theorem d_R_append_31 : decode b_R_append 31 = .ok (.getfield 17, 3) := by decide +kernel
theorem d_R_append_34 : decode b_R_append 34 = .ok (.iconst 1, 1) := by decide +kernel
theorem d_R_append_35 : decode b_R_append 35 = .ok (.iadd, 1) := by decide +kernel
theorem d_R_append_36 : decode b_R_append 36 = .ok (.putfield 17, 3) := by decide +kernel
theorem d_R_append_39 : decode b_R_append 39 = .ok (.return_, 1) := by decide +kernel
theorem d_R_oldest_0 : decode b_R_oldest 0 = .ok (.aload_n 0, 1) := by decide +kernel
theorem d_R_oldest_1 : decode b_R_oldest 1 = .ok (.getfield 17, 3) := by decide +kernel
theorem d_R_oldest_4 : decode b_R_oldest 4 = .ok (.ifCond .le 18, 3) := by decide +kernel
theorem d_R_oldest_7 : decode b_R_oldest 7 = .ok (.aload_n 0, 1) := by decide +kernel
theorem d_R_oldest_8 : decode b_R_oldest 8 = .ok (.getfield 9, 3) := by decide +kernel
theorem d_R_oldest_11 : decode b_R_oldest 11 = .ok (.aload_n 0, 1) := by decide +kernel
theorem d_R_oldest_12 : decode b_R_oldest 12 = .ok (.getfield 20, 3) := by decide +kernel
theorem d_R_oldest_15 : decode b_R_oldest 15 = .ok (.bipush 31, 2) := by decide +kernel
theorem d_R_oldest_17 : decode b_R_oldest 17 = .ok (.iand, 1) := by decide +kernel
theorem d_R_oldest_18 : decode b_R_oldest 18 = .ok (.iaload, 1) := by decide +kernel
theorem d_R_oldest_19 : decode b_R_oldest 19 = .ok (.goto 4, 3) := by decide +kernel
theorem d_R_oldest_22 : decode b_R_oldest 22 = .ok (.iconst 0, 1) := by decide +kernel
theorem d_R_oldest_23 : decode b_R_oldest 23 = .ok (.ireturn, 1) := by decide +kernel
theorem d_R_replaceOldest_0 : decode b_R_replaceOldest 0 = .ok (.aload_n 0, 1) := by decide +kernel
theorem d_R_replaceOldest_1 : decode b_R_replaceOldest 1 = .ok (.getfield 17, 3) := by decide +kernel
theorem d_R_replaceOldest_4 : decode b_R_replaceOldest 4 = .ok (.ifCond .le 16, 3) := by decide +kernel
theorem d_R_replaceOldest_7 : decode b_R_replaceOldest 7 = .ok (.aload_n 0, 1) := by decide +kernel
theorem d_R_replaceOldest_8 : decode b_R_replaceOldest 8 = .ok (.getfield 9, 3) := by decide +kernel
theorem d_R_replaceOldest_11 : decode b_R_replaceOldest 11 = .ok (.aload_n 0, 1) := by decide +kernel
theorem d_R_replaceOldest_12 : decode b_R_replaceOldest 12 = .ok (.getfield 20, 3) := by decide +kernel
theorem d_R_replaceOldest_15 : decode b_R_replaceOldest 15 = .ok (.bipush 31, 2) := by decide +kernel
theorem d_R_replaceOldest_17 : decode b_R_replaceOldest 17 = .ok (.iand, 1) := by decide +kernel
theorem d_R_replaceOldest_18 : decode b_R_replaceOldest 18 = .ok (.iload_n 1, 1) := by decide +kernel
theorem d_R_replaceOldest_19 : decode b_R_replaceOldest 19 = .ok (.iastore, 1) := by decide +kernel
theorem d_R_replaceOldest_20 : decode b_R_replaceOldest 20 = .ok (.return_, 1) := by decide +kernel
theorem d_R_removeOldest_0 : decode b_R_removeOldest 0 = .ok (.aload_n 0, 1) := by decide +kernel
theorem d_R_removeOldest_1 : decode b_R_removeOldest 1 = .ok (.getfield 17, 3) := by decide +kernel
theorem d_R_removeOldest_4 : decode b_R_removeOldest 4 = .ok (.ifCond .ne 5, 3) := by decide +kernel
theorem d_R_removeOldest_7 : decode b_R_removeOldest 7 = .ok (.iconst 0, 1) := by decide +kernel
theorem d_R_removeOldest_8 : decode b_R_removeOldest 8 = .ok (.ireturn, 1) := by decide +kernel
theorem d_R_removeOldest_9 : decode b_R_removeOldest 9 = .ok (.aload_n 0, 1) := by decide +kernel
theorem d_R_removeOldest_10 : decode b_R_removeOldest 10 = .ok (.getfield 9, 3) := by decide +kernel
theorem d_R_removeOldest_13 : decode b_R_removeOldest 13 = .ok (.aload_n 0, 1) := by decide +kernel
theorem d_R_removeOldest_14 : decode b_R_removeOldest 14 = .ok (.getfield 20, 3) := by decide +kernel
theorem d_R_removeOldest_17 : decode b_R_removeOldest 17 = .ok (.bipush 31, 2) := by decide +kernel
theorem d_R_removeOldest_19 : decode b_R_removeOldest 19 = .ok (.iand, 1) := by decide +kernel
theorem d_R_removeOldest_20 : decode b_R_removeOldest 20 = .ok (.iaload, 1) := by decide +kernel
theorem d_R_removeOldest_21 : decode b_R_removeOldest 21 = .ok (.istore_n 1, 1) := by decide +kernel
theorem d_R_removeOldest_22 : decode b_R_removeOldest 22 = .ok (.aload_n 0, 1) := by decide +kernel
theorem d_R_removeOldest_23 : decode b_R_removeOldest 23 = .ok (.aload_n 0, 1) := by decide +kernel
theorem d_R_removeOldest_24 : decode b_R_removeOldest 24 = .ok (.getfield 20, 3) := by decide +kernel
theorem d_R_removeOldest_27 : decode b_R_removeOldest 27 = .ok (.iconst 1, 1) := by decide +kernel
theorem d_R_removeOldest_28 : decode b_R_removeOldest 28 = .ok (.iadd, 1) := by decide +kernel
theorem d_R_removeOldest_29 : decode b_R_removeOldest 29 = .ok (.bipush 31, 2) := by decide +kernel
theorem d_R_removeOldest_31 : decode b_R_removeOldest 31 = .ok (.iand, 1) := by decide +kernel
theorem d_R_removeOldest_32 : decode b_R_removeOldest 32 = .ok (.putfield 20, 3) := by decide +kernel
theorem d_R_removeOldest_35 : decode b_R_removeOldest 35 = .ok (.aload_n 0, 1) := by decide +kernel
theorem d_R_removeOldest_36 : decode b_R_removeOldest 36 = .ok (.dup, 1) := by decide +kernel
theorem d_R_removeOldest_37 : decode b_R_removeOldest 37 = .ok (.getfield 17, 3) := by decide +kernel
theorem d_R_removeOldest_40 : decode b_R_removeOldest 40 = .ok (.iconst 1, 1) := by decide +kernel
theorem d_R_removeOldest_41 : decode b_R_removeOldest 41 = .ok (.isub, 1) := by decide +kernel
theorem d_R_removeOldest_42 : decode b_R_removeOldest 42 = .ok (.putfield 17, 3) := by decide +kernel
theorem d_R_removeOldest_45 : decode b_R_removeOldest 45 = .ok (.iload_n 1, 1) := by decide +kernel
theorem d_R_removeOldest_46 : decode b_R_removeOldest 46 = .ok (.ireturn, 1) := by decide +kernel
theorem d_R_hasItemAbove_0 : decode b_R_hasItemAbove 0 = .ok (.iconst 0, 1) := by decide +kernel
theorem d_R_hasItemAbove_1 : decode b_R_hasItemAbove 1 = .ok (.istore_n 2, 1) := by decide +kernel
theorem d_R_hasItemAbove_2 : decode b_R_hasItemAbove 2 = .ok (.iload_n 2, 1) := by decide +kernel
theorem d_R_hasItemAbove_3 : decode b_R_hasItemAbove 3 = .ok (.aload_n 0, 1) := by decide +kernel
theorem d_R_hasItemAbove_4 : decode b_R_hasItemAbove 4 = .ok (.getfield 17, 3) := by decide +kernel
theorem d_R_hasItemAbove_7 : decode b_R_hasItemAbove 7 = .ok (.if_icmp .ge 29, 3) := by decide +kernel
theorem d_R_hasItemAbove_10 : decode b_R_hasItemAbove 10 = .ok (.aload_n 0, 1) := by decide +kernel
theorem d_R_hasItemAbove_11 : decode b_R_hasItemAbove 11 = .ok (.getfield 9, 3) := by decide +kernel
theorem d_R_hasItemAbove_14 : decode b_R_hasItemAbove 14 = .ok (.aload_n 0, 1) := by decide +kernel
theorem d_R_hasItemAbove_15 : decode b_R_hasItemAbove 15 = .ok (.getfield 20, 3) := by decide +kernel
theorem d_R_hasItemAbove_18 : decode b_R_hasItemAbove 18 = .ok (.iload_n 2, 1) := by decide +kernel
theorem d_R_hasItemAbove_19 : decode b_R_hasItemAbove 19 = .ok (.iadd, 1) := by decide +kernel
theorem d_R_hasItemAbove_20 : decode b_R_hasItemAbove 20 = .ok (.bipush 31, 2) := by decide +kernel
theorem d_R_hasItemAbove_22 : decode b_R_hasItemAbove 22 = .ok (.iand, 1) := by decide +kernel
theorem d_R_hasItemAbove_23 : decode b_R_hasItemAbove 23 = .ok (.iaload, 1) := by decide +kernel
theorem d_R_hasItemAbove_24 : decode b_R_hasItemAbove 24 = .ok (.iload_n 1, 1) := by decide +kernel
theorem d_R_hasItemAbove_25 : decode b_R_hasItemAbove 25 = .ok (.if_icmp .le 5, 3) := by decide +kernel
theorem d_R_hasItemAbove_28 : decode b_R_hasItemAbove 28 = .ok (.iconst 1, 1) := by decide +kernel
theorem d_R_hasItemAbove_29 : decode b_R_hasItemAbove 29 = .ok (.ireturn, 1) := by decide +kernel
theorem d_R_hasItemAbove_30 : decode b_R_hasItemAbove 30 = .ok (.iinc 2 1, 3) := by decide +kernel
theorem d_R_hasItemAbove_33 : decode b_R_hasItemAbove 33 = .ok (.goto (-31), 3) := by decide +kernel
theorem d_R_hasItemAbove_36 : decode b_R_hasItemAbove 36 = .ok (.iconst 0, 1) := by decide +kernel
theorem d_R_hasItemAbove_37 : decode b_R_hasItemAbove 37 = .ok (.ireturn, 1) := by decide +kernel
theorem d_S_init_0 : decode b_S_init 0 = .ok (.aload_n 0, 1) := by decide +kernel
theorem d_S_init_1 : decode b_S_init 1 = .ok (.invokespecial 3, 3) := by decide +kernel
theorem d_S_init_4 : decode b_S_init 4 = .ok (.aload_n 0, 1) := by decide +kernel
theorem d_S_init_5 : decode b_S_init 5 = .ok (.bipush 32, 2) := by decide +kernel
theorem d_S_init_7 : decode b_S_init 7 = .ok (.newarray .int, 2) := by decide +kernel
theorem d_S_init_9 : decode b_S_init 9 = .ok (.putfield 11, 3) := by decide +kernel
theorem d_S_init_12 : decode b_S_init 12 = .ok (.return_, 1) := by decide +kernel
theorem d_S_add_0 : decode b_S_add 0 = .ok (.aload_n 0, 1) := by decide +kernel
theorem d_S_add_1 : decode b_S_add 1 = .ok (.getfield 11, 3) := by decide +kernel
theorem d_S_add_4 : decode b_S_add 4 = .ok (.aload_n 0, 1) := by decide +kernel
theorem d_S_add_5 : decode b_S_add 5 = .ok (.getfield 15, 3) := by decide +kernel
theorem d_S_add_8 : decode b_S_add 8 = .ok (.bipush 31, 2) := by decide +kernel
theorem d_S_add_10 : decode b_S_add 10 = .ok (.iand, 1) := by decide +kernel
theorem d_S_add_11 : decode b_S_add 11 = .ok (.iload_n 1, 1) := by decide +kernel
theorem d_S_add_12 : decode b_S_add 12 = .ok (.iastore, 1) := by decide +kernel
theorem d_S_add_13 : decode b_S_add 13 = .ok (.aload_n 0, 1) := by decide +kernel
theorem d_S_add_14 : decode b_S_add 14 = .ok (.dup, 1) := by decide +kernel
theorem d_S_add_15 : decode b_S_add 15 = .ok (.getfield 15, 3) := by decide +kernel
theorem d_S_add_18 : decode b_S_add 18 = .ok (.iconst 1, 1) := by decide +kernel
theorem d_S_add_19 : decode b_S_add 19 = .ok (.iadd, 1) := by decide +kernel
theorem d_S_add_20 : decode b_S_add 20 = .ok (.putfield 15, 3) := by decide +kernel
theorem d_S_add_23 : decode b_S_add 23 = .ok (.return_, 1) := by decide +kernel
theorem d_S_backFromLatest_0 : decode b_S_backFromLatest 0 = .ok (.iload_n 1, 1) := by decide +kernel
theorem d_S_backFromLatest_1 : decode b_S_backFromLatest 1 = .ok (.ifCond .lt 17, 3) := by decide +kernel
theorem d_S_backFromLatest_4 : decode b_S_backFromLatest 4 = .ok (.iload_n 1, 1) := by decide +kernel
theorem d_S_backFromLatest_5 : decode b_S_backFromLatest 5 = .ok (.bipush 31, 2) := by decide +kernel
theorem d_S_backFromLatest_7 : decode b_S_backFromLatest 7 = .ok (.if_icmp .gt 11, 3) := by decide +kernel
theorem d_S_backFromLatest_10 : decode b_S_backFromLatest 10 = .ok (.iload_n 1, 1) := by decide +kernel
theorem d_S_backFromLatest_11 : decode b_S_backFromLatest 11 = .ok (.aload_n 0, 1) := by decide +kernel
theorem d_S_backFromLatest_12 : decode b_S_backFromLatest 12 = .ok (.getfield 15, 3) := by decide +kernel
theorem d_S_backFromLatest_15 : decode b_S_backFromLatest 15 = .ok (.if_icmp .lt 5, 3) := by decide +kernel
theorem d_S_backFromLatest_18 : decode b_S_backFromLatest 18 = .ok (.iconst (-1), 1) := by decide +kernel
theorem d_S_backFromLatest_19 : decode b_S_backFromLatest 19 = .ok (.ireturn, 1) := by decide +kernel
theorem d_S_backFromLatest_20 : decode b_S_backFromLatest 20 = .ok (.aload_n 0, 1) := by decide +kernel
theorem d_S_backFromLatest_21 : decode b_S_backFromLatest 21 = .ok (.getfield 11, 3) := by decide +kernel
theorem d_S_backFromLatest_24 : decode b_S_backFromLatest 24 = .ok (.aload_n 0, 1) := by decide +kernel
theorem d_S_backFromLatest_25 : decode b_S_backFromLatest 25 = .ok (.getfield 15, 3) := by decide +kernel
theorem d_S_backFromLatest_28 : decode b_S_backFromLatest 28 = .ok (.iconst 1, 1) := by decide +kernel
theorem d_S_backFromLatest_29 : decode b_S_backFromLatest 29 = .ok (.isub, 1) := by decide +kernel
theorem d_S_backFromLatest_30 : decode b_S_backFromLatest 30 = .ok (.iload_n 1, 1) := by decide +kernel
theorem d_S_backFromLatest_31 : decode b_S_backFromLatest 31 = .ok (.isub, 1) := by decide +kernel
theorem d_S_backFromLatest_32 : decode b_S_backFromLatest 32 = .ok (.bipush 31, 2) := by decide +kernel
theorem d_S_backFromLatest_34 : decode b_S_backFromLatest 34 = .ok (.iand, 1) := by decide +kernel
theorem d_S_backFromLatest_35 : decode b_S_backFromLatest 35 = .ok (.iaload, 1) := by decide +kernel
theorem d_S_backFromLatest_36 : decode b_S_backFromLatest 36 = .ok (.ireturn, 1) := by decide +kernel
