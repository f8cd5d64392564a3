theorem dzL_pulse_0 : decode czL_pulse 0 = .ok (.aload_n 0, 1) := by decide +kernel
theorem dzL_pulse_1 : decode czL_pulse 1 = .ok (.iload_n 1, 1) := by decide +kernel
theorem dzL_pulse_2 : decode czL_pulse 2 = .ok (.iload_n 2, 1) := by decide +kernel
theorem dzL_pulse_3 : decode czL_pulse 3 = .ok (.iload_n 3, 1) := by decide +kernel
theorem dzL_pulse_4 : decode czL_pulse 4 = .ok (.invokevirtual 7, 3) := by decide +kernel
theorem dzL_pulse_7 : decode czL_pulse 7 = .ok (.goto 15, 3) := by decide +kernel
theorem dzL_pulse_10 : decode czL_pulse 10 = .ok (.astore 4, 2) := by decide +kernel
theorem dzL_pulse_12 : decode czL_pulse 12 = .ok (.iconst 1, 1) := by decide +kernel
theorem dzL_pulse_13 : decode czL_pulse 13 = .ok (.ireturn, 1) := by decide +kernel
theorem dzL_pulse_14 : decode czL_pulse 14 = .ok (.astore 4, 2) := by decide +kernel
theorem dzL_pulse_16 : decode czL_pulse 16 = .ok (.iconst 2, 1) := by decide +kernel
theorem dzL_pulse_17 : decode czL_pulse 17 = .ok (.ireturn, 1) := by decide +kernel
theorem dzL_pulse_18 : decode czL_pulse 18 = .ok (.astore 4, 2) := by decide +kernel
theorem dzL_pulse_20 : decode czL_pulse 20 = .ok (.iconst 3, 1) := by decide +kernel
theorem dzL_pulse_21 : decode czL_pulse 21 = .ok (.ireturn, 1) := by decide +kernel
theorem dzL_pulse_22 : decode czL_pulse 22 = .ok (.iconst 0, 1) := by decide +kernel
theorem dzL_pulse_23 : decode czL_pulse 23 = .ok (.ireturn, 1) := by decide +kernel
theorem dzL_health_0 : decode czL_health 0 = .ok (.aload 4, 2) := by decide +kernel
theorem dzL_health_2 : decode czL_health 2 = .ok (.iconst 0, 1) := by decide +kernel
theorem dzL_health_3 : decode czL_health 3 = .ok (.aload_n 0, 1) := by decide +kernel
theorem dzL_health_4 : decode czL_health 4 = .ok (.iload_n 1, 1) := by decide +kernel
theorem dzL_health_5 : decode czL_health 5 = .ok (.iload_n 2, 1) := by decide +kernel
theorem dzL_health_6 : decode czL_health 6 = .ok (.iload_n 3, 1) := by decide +kernel
theorem dzL_health_7 : decode czL_health 7 = .ok (.invokevirtual 19, 3) := by decide +kernel
theorem dzL_health_10 : decode czL_health 10 = .ok (.ifCond .eq 7, 3) := by decide +kernel
theorem dzL_health_13 : decode czL_health 13 = .ok (.lconst 1, 1) := by decide +kernel
theorem dzL_health_14 : decode czL_health 14 = .ok (.goto 4, 3) := by decide +kernel
theorem dzL_health_17 : decode czL_health 17 = .ok (.lconst 0, 1) := by decide +kernel
theorem dzL_health_18 : decode czL_health 18 = .ok (.lastore, 1) := by decide +kernel
theorem dzL_health_19 : decode czL_health 19 = .ok (.goto 7, 3) := by decide +kernel
theorem dzL_health_22 : decode czL_health 22 = .ok (.astore 5, 2) := by decide +kernel
theorem dzL_health_24 : decode czL_health 24 = .ok (.iconst 1, 1) := by decide +kernel
theorem dzL_health_25 : decode czL_health 25 = .ok (.ireturn, 1) := by decide +kernel
theorem dzL_health_26 : decode czL_health 26 = .ok (.iconst 0, 1) := by decide +kernel
theorem dzL_health_27 : decode czL_health 27 = .ok (.ireturn, 1) := by decide +kernel
theorem dzL_ticks_0 : decode czL_ticks 0 = .ok (.aload_n 2, 1) := by decide +kernel
theorem dzL_ticks_1 : decode czL_ticks 1 = .ok (.iconst 0, 1) := by decide +kernel
theorem dzL_ticks_2 : decode czL_ticks 2 = .ok (.aload_n 0, 1) := by decide +kernel
theorem dzL_ticks_3 : decode czL_ticks 3 = .ok (.iload_n 1, 1) := by decide +kernel
theorem dzL_ticks_4 : decode czL_ticks 4 = .ok (.invokevirtual 23, 3) := by decide +kernel
theorem dzL_ticks_7 : decode czL_ticks 7 = .ok (.i2l, 1) := by decide +kernel
theorem dzL_ticks_8 : decode czL_ticks 8 = .ok (.lastore, 1) := by decide +kernel
theorem dzL_ticks_9 : decode czL_ticks 9 = .ok (.goto 6, 3) := by decide +kernel
theorem dzL_ticks_12 : decode czL_ticks 12 = .ok (.astore_n 3, 1) := by decide +kernel
theorem dzL_ticks_13 : decode czL_ticks 13 = .ok (.iconst 1, 1) := by decide +kernel
theorem dzL_ticks_14 : decode czL_ticks 14 = .ok (.ireturn, 1) := by decide +kernel
theorem dzL_ticks_15 : decode czL_ticks 15 = .ok (.iconst 0, 1) := by decide +kernel
theorem dzL_ticks_16 : decode czL_ticks 16 = .ok (.ireturn, 1) := by decide +kernel
theorem dzL_barrier_0 : decode czL_barrier 0 = .ok (.aload_n 3, 1) := by decide +kernel
theorem dzL_barrier_1 : decode czL_barrier 1 = .ok (.iconst 0, 1) := by decide +kernel
theorem dzL_barrier_2 : decode czL_barrier 2 = .ok (.aload_n 0, 1) := by decide +kernel
theorem dzL_barrier_3 : decode czL_barrier 3 = .ok (.iload_n 1, 1) := by decide +kernel
theorem dzL_barrier_4 : decode czL_barrier 4 = .ok (.iload_n 2, 1) := by decide +kernel
theorem dzL_barrier_5 : decode czL_barrier 5 = .ok (.invokevirtual 27, 3) := by decide +kernel
theorem dzL_barrier_8 : decode czL_barrier 8 = .ok (.i2l, 1) := by decide +kernel
theorem dzL_barrier_9 : decode czL_barrier 9 = .ok (.lastore, 1) := by decide +kernel
theorem dzL_barrier_10 : decode czL_barrier 10 = .ok (.goto 11, 3) := by decide +kernel
theorem dzL_barrier_13 : decode czL_barrier 13 = .ok (.astore 4, 2) := by decide +kernel
theorem dzL_barrier_15 : decode czL_barrier 15 = .ok (.iconst 1, 1) := by decide +kernel
theorem dzL_barrier_16 : decode czL_barrier 16 = .ok (.ireturn, 1) := by decide +kernel
theorem dzL_barrier_17 : decode czL_barrier 17 = .ok (.astore 4, 2) := by decide +kernel
theorem dzL_barrier_19 : decode czL_barrier 19 = .ok (.iconst 2, 1) := by decide +kernel
theorem dzL_barrier_20 : decode czL_barrier 20 = .ok (.ireturn, 1) := by decide +kernel
theorem dzL_barrier_21 : decode czL_barrier 21 = .ok (.iconst 0, 1) := by decide +kernel
theorem dzL_barrier_22 : decode czL_barrier 22 = .ok (.ireturn, 1) := by decide +kernel
theorem dzL_current_0 : decode czL_current 0 = .ok (.aload_n 3, 1) := by decide +kernel
theorem dzL_current_1 : decode czL_current 1 = .ok (.iconst 0, 1) := by decide +kernel
theorem dzL_current_2 : decode czL_current 2 = .ok (.aload_n 0, 1) := by decide +kernel
theorem dzL_current_3 : decode czL_current 3 = .ok (.iload_n 1, 1) := by decide +kernel
theorem dzL_current_4 : decode czL_current 4 = .ok (.iload_n 2, 1) := by decide +kernel
theorem dzL_current_5 : decode czL_current 5 = .ok (.invokevirtual 31, 3) := by decide +kernel
theorem dzL_current_8 : decode czL_current 8 = .ok (.ifCond .eq 7, 3) := by decide +kernel
theorem dzL_current_11 : decode czL_current 11 = .ok (.lconst 1, 1) := by decide +kernel
theorem dzL_current_12 : decode czL_current 12 = .ok (.goto 4, 3) := by decide +kernel
theorem dzL_current_15 : decode czL_current 15 = .ok (.lconst 0, 1) := by decide +kernel
theorem dzL_current_16 : decode czL_current 16 = .ok (.lastore, 1) := by decide +kernel
theorem dzL_current_17 : decode czL_current 17 = .ok (.goto 7, 3) := by decide +kernel
theorem dzL_current_20 : decode czL_current 20 = .ok (.astore 4, 2) := by decide +kernel
theorem dzL_current_22 : decode czL_current 22 = .ok (.iconst 1, 1) := by decide +kernel
theorem dzL_current_23 : decode czL_current 23 = .ok (.ireturn, 1) := by decide +kernel
theorem dzL_current_24 : decode czL_current 24 = .ok (.iconst 0, 1) := by decide +kernel
theorem dzL_current_25 : decode czL_current 25 = .ok (.ireturn, 1) := by decide +kernel
theorem dzL_order_0 : decode czL_order 0 = .ok (.aload_n 2, 1) := by decide +kernel
theorem dzL_order_1 : decode czL_order 1 = .ok (.iconst 0, 1) := by decide +kernel
theorem dzL_order_2 : decode czL_order 2 = .ok (.aload_n 0, 1) := by decide +kernel
theorem dzL_order_3 : decode czL_order 3 = .ok (.iload_n 1, 1) := by decide +kernel
theorem dzL_order_4 : decode czL_order 4 = .ok (.invokevirtual 35, 3) := by decide +kernel
theorem dzL_order_7 : decode czL_order 7 = .ok (.i2l, 1) := by decide +kernel
theorem dzL_order_8 : decode czL_order 8 = .ok (.lastore, 1) := by decide +kernel
theorem dzL_order_9 : decode czL_order 9 = .ok (.goto 6, 3) := by decide +kernel
theorem dzL_order_12 : decode czL_order 12 = .ok (.astore_n 3, 1) := by decide +kernel
theorem dzL_order_13 : decode czL_order 13 = .ok (.iconst 1, 1) := by decide +kernel
theorem dzL_order_14 : decode czL_order 14 = .ok (.ireturn, 1) := by decide +kernel
theorem dzL_order_15 : decode czL_order 15 = .ok (.iconst 0, 1) := by decide +kernel
theorem dzL_order_16 : decode czL_order 16 = .ok (.ireturn, 1) := by decide +kernel
theorem dzL_cancel_0 : decode czL_cancel 0 = .ok (.aload_n 2, 1) := by decide +kernel
theorem dzL_cancel_1 : decode czL_cancel 1 = .ok (.iconst 0, 1) := by decide +kernel
theorem dzL_cancel_2 : decode czL_cancel 2 = .ok (.aload_n 0, 1) := by decide +kernel
theorem dzL_cancel_3 : decode czL_cancel 3 = .ok (.iload_n 1, 1) := by decide +kernel
theorem dzL_cancel_4 : decode czL_cancel 4 = .ok (.invokevirtual 38, 3) := by decide +kernel
theorem dzL_cancel_7 : decode czL_cancel 7 = .ok (.ifCond .eq 7, 3) := by decide +kernel
theorem dzL_cancel_10 : decode czL_cancel 10 = .ok (.lconst 1, 1) := by decide +kernel
theorem dzL_cancel_11 : decode czL_cancel 11 = .ok (.goto 4, 3) := by decide +kernel
theorem dzL_cancel_14 : decode czL_cancel 14 = .ok (.lconst 0, 1) := by decide +kernel
theorem dzL_cancel_15 : decode czL_cancel 15 = .ok (.lastore, 1) := by decide +kernel
theorem dzL_cancel_16 : decode czL_cancel 16 = .ok (.goto 6, 3) := by decide +kernel
theorem dzL_cancel_19 : decode czL_cancel 19 = .ok (.astore_n 3, 1) := by decide +kernel
theorem dzL_cancel_20 : decode czL_cancel 20 = .ok (.iconst 1, 1) := by decide +kernel
theorem dzL_cancel_21 : decode czL_cancel 21 = .ok (.ireturn, 1) := by decide +kernel
theorem dzL_cancel_22 : decode czL_cancel 22 = .ok (.iconst 0, 1) := by decide +kernel
theorem dzL_cancel_23 : decode czL_cancel 23 = .ok (.ireturn, 1) := by decide +kernel
theorem dzL_ask_0 : decode czL_ask 0 = .ok (.aload_n 0, 1) := by decide +kernel
theorem dzL_ask_1 : decode czL_ask 1 = .ok (.iload_n 1, 1) := by decide +kernel
theorem dzL_ask_2 : decode czL_ask 2 = .ok (.iload_n 2, 1) := by decide +kernel
theorem dzL_ask_3 : decode czL_ask 3 = .ok (.iload_n 3, 1) := by decide +kernel
theorem dzL_ask_4 : decode czL_ask 4 = .ok (.invokevirtual 42, 3) := by decide +kernel
theorem dzL_ask_7 : decode czL_ask 7 = .ok (.goto 11, 3) := by decide +kernel
theorem dzL_ask_10 : decode czL_ask 10 = .ok (.astore 4, 2) := by decide +kernel
theorem dzL_ask_12 : decode czL_ask 12 = .ok (.iconst 1, 1) := by decide +kernel
theorem dzL_ask_13 : decode czL_ask 13 = .ok (.ireturn, 1) := by decide +kernel
theorem dzL_ask_14 : decode czL_ask 14 = .ok (.astore 4, 2) := by decide +kernel
theorem dzL_ask_16 : decode czL_ask 16 = .ok (.iconst 2, 1) := by decide +kernel
theorem dzL_ask_17 : decode czL_ask 17 = .ok (.ireturn, 1) := by decide +kernel
theorem dzL_ask_18 : decode czL_ask 18 = .ok (.iconst 0, 1) := by decide +kernel
theorem dzL_ask_19 : decode czL_ask 19 = .ok (.ireturn, 1) := by decide +kernel
theorem dzL_confirm_0 : decode czL_confirm 0 = .ok (.aload 4, 2) := by decide +kernel
theorem dzL_confirm_2 : decode czL_confirm 2 = .ok (.iconst 0, 1) := by decide +kernel
theorem dzL_confirm_3 : decode czL_confirm 3 = .ok (.aload_n 0, 1) := by decide +kernel
theorem dzL_confirm_4 : decode czL_confirm 4 = .ok (.iload_n 1, 1) := by decide +kernel
theorem dzL_confirm_5 : decode czL_confirm 5 = .ok (.iload_n 2, 1) := by decide +kernel
theorem dzL_confirm_6 : decode czL_confirm 6 = .ok (.iload_n 3, 1) := by decide +kernel
theorem dzL_confirm_7 : decode czL_confirm 7 = .ok (.invokevirtual 45, 3) := by decide +kernel
theorem dzL_confirm_10 : decode czL_confirm 10 = .ok (.ifCond .eq 7, 3) := by decide +kernel
theorem dzL_confirm_13 : decode czL_confirm 13 = .ok (.lconst 1, 1) := by decide +kernel
theorem dzL_confirm_14 : decode czL_confirm 14 = .ok (.goto 4, 3) := by decide +kernel
theorem dzL_confirm_17 : decode czL_confirm 17 = .ok (.lconst 0, 1) := by decide +kernel
theorem dzL_confirm_18 : decode czL_confirm 18 = .ok (.lastore, 1) := by decide +kernel
theorem dzL_confirm_19 : decode czL_confirm 19 = .ok (.goto 11, 3) := by decide +kernel
theorem dzL_confirm_22 : decode czL_confirm 22 = .ok (.astore 5, 2) := by decide +kernel
theorem dzL_confirm_24 : decode czL_confirm 24 = .ok (.iconst 1, 1) := by decide +kernel
theorem dzL_confirm_25 : decode czL_confirm 25 = .ok (.ireturn, 1) := by decide +kernel
theorem dzL_confirm_26 : decode czL_confirm 26 = .ok (.astore 5, 2) := by decide +kernel
theorem dzL_confirm_28 : decode czL_confirm 28 = .ok (.iconst 2, 1) := by decide +kernel
theorem dzL_confirm_29 : decode czL_confirm 29 = .ok (.ireturn, 1) := by decide +kernel
theorem dzL_confirm_30 : decode czL_confirm 30 = .ok (.iconst 0, 1) := by decide +kernel
theorem dzL_confirm_31 : decode czL_confirm 31 = .ok (.ireturn, 1) := by decide +kernel
theorem dzL_section_0 : decode czL_section 0 = .ok (.aload 4, 2) := by decide +kernel
theorem dzL_section_2 : decode czL_section 2 = .ok (.iconst 0, 1) := by decide +kernel
theorem dzL_section_3 : decode czL_section 3 = .ok (.aload_n 0, 1) := by decide +kernel
theorem dzL_section_4 : decode czL_section 4 = .ok (.iload_n 1, 1) := by decide +kernel
theorem dzL_section_5 : decode czL_section 5 = .ok (.iload_n 2, 1) := by decide +kernel
theorem dzL_section_6 : decode czL_section 6 = .ok (.iload_n 3, 1) := by decide +kernel
theorem dzL_section_7 : decode czL_section 7 = .ok (.invokevirtual 49, 3) := by decide +kernel
theorem dzL_section_10 : decode czL_section 10 = .ok (.i2l, 1) := by decide +kernel
theorem dzL_section_11 : decode czL_section 11 = .ok (.lastore, 1) := by decide +kernel
theorem dzL_section_12 : decode czL_section 12 = .ok (.goto 11, 3) := by decide +kernel
theorem dzL_section_15 : decode czL_section 15 = .ok (.astore 5, 2) := by decide +kernel
theorem dzL_section_17 : decode czL_section 17 = .ok (.iconst 1, 1) := by decide +kernel
theorem dzL_section_18 : decode czL_section 18 = .ok (.ireturn, 1) := by decide +kernel
theorem dzL_section_19 : decode czL_section 19 = .ok (.astore 5, 2) := by decide +kernel
theorem dzL_section_21 : decode czL_section 21 = .ok (.iconst 2, 1) := by decide +kernel
theorem dzL_section_22 : decode czL_section 22 = .ok (.ireturn, 1) := by decide +kernel
theorem dzL_section_23 : decode czL_section 23 = .ok (.iconst 0, 1) := by decide +kernel
theorem dzL_section_24 : decode czL_section 24 = .ok (.ireturn, 1) := by decide +kernel
theorem dzL_earliest_0 : decode czL_earliest 0 = .ok (.aload_n 2, 1) := by decide +kernel
theorem dzL_earliest_1 : decode czL_earliest 1 = .ok (.iconst 0, 1) := by decide +kernel
theorem dzL_earliest_2 : decode czL_earliest 2 = .ok (.aload_n 0, 1) := by decide +kernel
theorem dzL_earliest_3 : decode czL_earliest 3 = .ok (.iload_n 1, 1) := by decide +kernel
theorem dzL_earliest_4 : decode czL_earliest 4 = .ok (.invokevirtual 53, 3) := by decide +kernel
theorem dzL_earliest_7 : decode czL_earliest 7 = .ok (.i2l, 1) := by decide +kernel
theorem dzL_earliest_8 : decode czL_earliest 8 = .ok (.lastore, 1) := by decide +kernel
theorem dzL_earliest_9 : decode czL_earliest 9 = .ok (.goto 6, 3) := by decide +kernel
theorem dzL_earliest_12 : decode czL_earliest 12 = .ok (.astore_n 3, 1) := by decide +kernel
theorem dzL_earliest_13 : decode czL_earliest 13 = .ok (.iconst 1, 1) := by decide +kernel
theorem dzL_earliest_14 : decode czL_earliest 14 = .ok (.ireturn, 1) := by decide +kernel
theorem dzL_earliest_15 : decode czL_earliest 15 = .ok (.iconst 0, 1) := by decide +kernel
theorem dzL_earliest_16 : decode czL_earliest 16 = .ok (.ireturn, 1) := by decide +kernel
theorem dzL_about_0 : decode czL_about 0 = .ok (.aload_n 2, 1) := by decide +kernel
theorem dzL_about_1 : decode czL_about 1 = .ok (.iconst 0, 1) := by decide +kernel
theorem dzL_about_2 : decode czL_about 2 = .ok (.aload_n 0, 1) := by decide +kernel
theorem dzL_about_3 : decode czL_about 3 = .ok (.iload_n 1, 1) := by decide +kernel
theorem dzL_about_4 : decode czL_about 4 = .ok (.invokevirtual 56, 3) := by decide +kernel
theorem dzL_about_7 : decode czL_about 7 = .ok (.i2l, 1) := by decide +kernel
theorem dzL_about_8 : decode czL_about 8 = .ok (.lastore, 1) := by decide +kernel
theorem dzL_about_9 : decode czL_about 9 = .ok (.goto 6, 3) := by decide +kernel
theorem dzL_about_12 : decode czL_about 12 = .ok (.astore_n 3, 1) := by decide +kernel
theorem dzL_about_13 : decode czL_about 13 = .ok (.iconst 1, 1) := by decide +kernel
theorem dzL_about_14 : decode czL_about 14 = .ok (.ireturn, 1) := by decide +kernel
theorem dzL_about_15 : decode czL_about 15 = .ok (.iconst 0, 1) := by decide +kernel
theorem dzL_about_16 : decode czL_about 16 = .ok (.ireturn, 1) := by decide +kernel
theorem dzL_event_0 : decode czL_event 0 = .ok (.aload_n 3, 1) := by decide +kernel
theorem dzL_event_1 : decode czL_event 1 = .ok (.iconst 0, 1) := by decide +kernel
theorem dzL_event_2 : decode czL_event 2 = .ok (.aload_n 0, 1) := by decide +kernel
theorem dzL_event_3 : decode czL_event 3 = .ok (.iload_n 1, 1) := by decide +kernel
theorem dzL_event_4 : decode czL_event 4 = .ok (.iload_n 2, 1) := by decide +kernel
theorem dzL_event_5 : decode czL_event 5 = .ok (.invokevirtual 59, 3) := by decide +kernel
theorem dzL_event_8 : decode czL_event 8 = .ok (.i2l, 1) := by decide +kernel
theorem dzL_event_9 : decode czL_event 9 = .ok (.lastore, 1) := by decide +kernel
theorem dzL_event_10 : decode czL_event 10 = .ok (.goto 11, 3) := by decide +kernel
theorem dzL_event_13 : decode czL_event 13 = .ok (.astore 4, 2) := by decide +kernel
theorem dzL_event_15 : decode czL_event 15 = .ok (.iconst 1, 1) := by decide +kernel
theorem dzL_event_16 : decode czL_event 16 = .ok (.ireturn, 1) := by decide +kernel
theorem dzL_event_17 : decode czL_event 17 = .ok (.astore 4, 2) := by decide +kernel
theorem dzL_event_19 : decode czL_event 19 = .ok (.iconst 2, 1) := by decide +kernel
theorem dzL_event_20 : decode czL_event 20 = .ok (.ireturn, 1) := by decide +kernel
theorem dzL_event_21 : decode czL_event 21 = .ok (.iconst 0, 1) := by decide +kernel
theorem dzL_event_22 : decode czL_event 22 = .ok (.ireturn, 1) := by decide +kernel
theorem dzL_law_0 : decode czL_law 0 = .ok (.new 8, 3) := by decide +kernel
theorem dzL_law_3 : decode czL_law 3 = .ok (.dup, 1) := by decide +kernel
theorem dzL_law_4 : decode czL_law 4 = .ok (.invokespecial 62, 3) := by decide +kernel
theorem dzL_law_7 : decode czL_law 7 = .ok (.astore_n 1, 1) := by decide +kernel
theorem dzL_law_8 : decode czL_law 8 = .ok (.new 63, 3) := by decide +kernel
theorem dzL_law_11 : decode czL_law 11 = .ok (.dup, 1) := by decide +kernel
theorem dzL_law_12 : decode czL_law 12 = .ok (.invokespecial 65, 3) := by decide +kernel
theorem dzL_law_15 : decode czL_law 15 = .ok (.astore_n 2, 1) := by decide +kernel
theorem dzL_law_16 : decode czL_law 16 = .ok (.iconst 1, 1) := by decide +kernel
theorem dzL_law_17 : decode czL_law 17 = .ok (.newarray .long, 2) := by decide +kernel
theorem dzL_law_19 : decode czL_law 19 = .ok (.astore_n 3, 1) := by decide +kernel
theorem dzL_law_20 : decode czL_law 20 = .ok (.iconst 0, 1) := by decide +kernel
theorem dzL_law_21 : decode czL_law 21 = .ok (.istore 4, 2) := by decide +kernel
theorem dzL_law_23 : decode czL_law 23 = .ok (.iload 4, 2) := by decide +kernel
theorem dzL_law_25 : decode czL_law 25 = .ok (.aload_n 0, 1) := by decide +kernel
theorem dzL_law_26 : decode czL_law 26 = .ok (.arraylength, 1) := by decide +kernel
theorem dzL_law_27 : decode czL_law 27 = .ok (.iconst 4, 1) := by decide +kernel
theorem dzL_law_28 : decode czL_law 28 = .ok (.isub, 1) := by decide +kernel
theorem dzL_law_29 : decode czL_law 29 = .ok (.if_icmp .gt 1047, 3) := by decide +kernel
theorem dzL_law_32 : decode czL_law 32 = .ok (.aload_n 0, 1) := by decide +kernel
theorem dzL_law_33 : decode czL_law 33 = .ok (.iload 4, 2) := by decide +kernel
theorem dzL_law_35 : decode czL_law 35 = .ok (.iaload, 1) := by decide +kernel
theorem dzL_law_36 : decode czL_law 36 = .ok (.bipush 15, 2) := by decide +kernel
theorem dzL_law_38 : decode czL_law 38 = .ok (.iand, 1) := by decide +kernel
theorem dzL_law_39 : decode czL_law 39 = .ok (.tableswitch 1031 0 14 #[73, 133, 236, 249, 305, 373, 464, 505, 561, 624, 684, 771, 851, 907, 963], 73) := by decide +kernel
theorem dzL_law_112 : decode czL_law 112 = .ok (.aload_n 1, 1) := by decide +kernel
theorem dzL_law_113 : decode czL_law 113 = .ok (.aload_n 0, 1) := by decide +kernel
theorem dzL_law_114 : decode czL_law 114 = .ok (.iload 4, 2) := by decide +kernel
theorem dzL_law_116 : decode czL_law 116 = .ok (.iconst 1, 1) := by decide +kernel
theorem dzL_law_117 : decode czL_law 117 = .ok (.iadd, 1) := by decide +kernel
theorem dzL_law_118 : decode czL_law 118 = .ok (.iaload, 1) := by decide +kernel
theorem dzL_law_119 : decode czL_law 119 = .ok (.aload_n 0, 1) := by decide +kernel
theorem dzL_law_120 : decode czL_law 120 = .ok (.iload 4, 2) := by decide +kernel
theorem dzL_law_122 : decode czL_law 122 = .ok (.iconst 2, 1) := by decide +kernel
theorem dzL_law_123 : decode czL_law 123 = .ok (.iadd, 1) := by decide +kernel
theorem dzL_law_124 : decode czL_law 124 = .ok (.iaload, 1) := by decide +kernel
theorem dzL_law_125 : decode czL_law 125 = .ok (.aload_n 0, 1) := by decide +kernel
theorem dzL_law_126 : decode czL_law 126 = .ok (.iload 4, 2) := by decide +kernel
theorem dzL_law_128 : decode czL_law 128 = .ok (.iconst 3, 1) := by decide +kernel
theorem dzL_law_129 : decode czL_law 129 = .ok (.iadd, 1) := by decide +kernel
theorem dzL_law_130 : decode czL_law 130 = .ok (.iaload, 1) := by decide +kernel
theorem dzL_law_131 : decode czL_law 131 = .ok (.invokestatic 66, 3) := by decide +kernel
theorem dzL_law_134 : decode czL_law 134 = .ok (.istore 5, 2) := by decide +kernel
theorem dzL_law_136 : decode czL_law 136 = .ok (.aload_n 2, 1) := by decide +kernel
theorem dzL_law_137 : decode czL_law 137 = .ok (.aload_n 0, 1) := by decide +kernel
theorem dzL_law_138 : decode czL_law 138 = .ok (.iload 4, 2) := by decide +kernel
theorem dzL_law_140 : decode czL_law 140 = .ok (.iconst 1, 1) := by decide +kernel
theorem dzL_law_141 : decode czL_law 141 = .ok (.iadd, 1) := by decide +kernel
theorem dzL_law_142 : decode czL_law 142 = .ok (.iaload, 1) := by decide +kernel
theorem dzL_law_143 : decode czL_law 143 = .ok (.aload_n 0, 1) := by decide +kernel
theorem dzL_law_144 : decode czL_law 144 = .ok (.iload 4, 2) := by decide +kernel
theorem dzL_law_146 : decode czL_law 146 = .ok (.iconst 2, 1) := by decide +kernel
theorem dzL_law_147 : decode czL_law 147 = .ok (.iadd, 1) := by decide +kernel
theorem dzL_law_148 : decode czL_law 148 = .ok (.iaload, 1) := by decide +kernel
theorem dzL_law_149 : decode czL_law 149 = .ok (.aload_n 0, 1) := by decide +kernel
theorem dzL_law_150 : decode czL_law 150 = .ok (.iload 4, 2) := by decide +kernel
theorem dzL_law_152 : decode czL_law 152 = .ok (.iconst 3, 1) := by decide +kernel
theorem dzL_law_153 : decode czL_law 153 = .ok (.iadd, 1) := by decide +kernel
theorem dzL_law_154 : decode czL_law 154 = .ok (.iaload, 1) := by decide +kernel
theorem dzL_law_155 : decode czL_law 155 = .ok (.invokevirtual 71, 3) := by decide +kernel
theorem dzL_law_158 : decode czL_law 158 = .ok (.aload_n 2, 1) := by decide +kernel
theorem dzL_law_159 : decode czL_law 159 = .ok (.invokevirtual 72, 3) := by decide +kernel
theorem dzL_law_162 : decode czL_law 162 = .ok (.iload 5, 2) := by decide +kernel
theorem dzL_law_164 : decode czL_law 164 = .ok (.if_icmp .eq 5, 3) := by decide +kernel
theorem dzL_law_167 : decode czL_law 167 = .ok (.iconst 0, 1) := by decide +kernel
theorem dzL_law_168 : decode czL_law 168 = .ok (.ireturn, 1) := by decide +kernel
theorem dzL_law_169 : decode czL_law 169 = .ok (.goto 901, 3) := by decide +kernel
theorem dzL_law_172 : decode czL_law 172 = .ok (.aload_n 1, 1) := by decide +kernel
theorem dzL_law_173 : decode czL_law 173 = .ok (.aload_n 0, 1) := by decide +kernel
theorem dzL_law_174 : decode czL_law 174 = .ok (.iload 4, 2) := by decide +kernel
theorem dzL_law_176 : decode czL_law 176 = .ok (.iconst 1, 1) := by decide +kernel
theorem dzL_law_177 : decode czL_law 177 = .ok (.iadd, 1) := by decide +kernel
theorem dzL_law_178 : decode czL_law 178 = .ok (.iaload, 1) := by decide +kernel
theorem dzL_law_179 : decode czL_law 179 = .ok (.aload_n 0, 1) := by decide +kernel
theorem dzL_law_180 : decode czL_law 180 = .ok (.iload 4, 2) := by decide +kernel
theorem dzL_law_182 : decode czL_law 182 = .ok (.iconst 2, 1) := by decide +kernel
theorem dzL_law_183 : decode czL_law 183 = .ok (.iadd, 1) := by decide +kernel
theorem dzL_law_184 : decode czL_law 184 = .ok (.iaload, 1) := by decide +kernel
theorem dzL_law_185 : decode czL_law 185 = .ok (.aload_n 0, 1) := by decide +kernel
theorem dzL_law_186 : decode czL_law 186 = .ok (.iload 4, 2) := by decide +kernel
theorem dzL_law_188 : decode czL_law 188 = .ok (.iconst 3, 1) := by decide +kernel
theorem dzL_law_189 : decode czL_law 189 = .ok (.iadd, 1) := by decide +kernel
theorem dzL_law_190 : decode czL_law 190 = .ok (.iaload, 1) := by decide +kernel
theorem dzL_law_191 : decode czL_law 191 = .ok (.ifCond .eq 7, 3) := by decide +kernel
theorem dzL_law_194 : decode czL_law 194 = .ok (.iconst 1, 1) := by decide +kernel
theorem dzL_law_195 : decode czL_law 195 = .ok (.goto 4, 3) := by decide +kernel
theorem dzL_law_198 : decode czL_law 198 = .ok (.iconst 0, 1) := by decide +kernel
theorem dzL_law_199 : decode czL_law 199 = .ok (.aload_n 3, 1) := by decide +kernel
theorem dzL_law_200 : decode czL_law 200 = .ok (.invokestatic 76, 3) := by decide +kernel
theorem dzL_law_203 : decode czL_law 203 = .ok (.istore 5, 2) := by decide +kernel
theorem dzL_law_205 : decode czL_law 205 = .ok (.aload_n 2, 1) := by decide +kernel
theorem dzL_law_206 : decode czL_law 206 = .ok (.aload_n 0, 1) := by decide +kernel
theorem dzL_law_207 : decode czL_law 207 = .ok (.iload 4, 2) := by decide +kernel
theorem dzL_law_209 : decode czL_law 209 = .ok (.iconst 1, 1) := by decide +kernel
theorem dzL_law_210 : decode czL_law 210 = .ok (.iadd, 1) := by decide +kernel
theorem dzL_law_211 : decode czL_law 211 = .ok (.iaload, 1) := by decide +kernel
theorem dzL_law_212 : decode czL_law 212 = .ok (.aload_n 0, 1) := by decide +kernel
theorem dzL_law_213 : decode czL_law 213 = .ok (.iload 4, 2) := by decide +kernel
theorem dzL_law_215 : decode czL_law 215 = .ok (.iconst 2, 1) := by decide +kernel
theorem dzL_law_216 : decode czL_law 216 = .ok (.iadd, 1) := by decide +kernel
theorem dzL_law_217 : decode czL_law 217 = .ok (.iaload, 1) := by decide +kernel
theorem dzL_law_218 : decode czL_law 218 = .ok (.aload_n 0, 1) := by decide +kernel
theorem dzL_law_219 : decode czL_law 219 = .ok (.iload 4, 2) := by decide +kernel
theorem dzL_law_221 : decode czL_law 221 = .ok (.iconst 3, 1) := by decide +kernel
theorem dzL_law_222 : decode czL_law 222 = .ok (.iadd, 1) := by decide +kernel
theorem dzL_law_223 : decode czL_law 223 = .ok (.iaload, 1) := by decide +kernel
theorem dzL_law_224 : decode czL_law 224 = .ok (.ifCond .eq 7, 3) := by decide +kernel
theorem dzL_law_227 : decode czL_law 227 = .ok (.iconst 1, 1) := by decide +kernel
theorem dzL_law_228 : decode czL_law 228 = .ok (.goto 4, 3) := by decide +kernel
theorem dzL_law_231 : decode czL_law 231 = .ok (.iconst 0, 1) := by decide +kernel
theorem dzL_law_232 : decode czL_law 232 = .ok (.invokevirtual 79, 3) := by decide +kernel
theorem dzL_law_235 : decode czL_law 235 = .ok (.istore 6, 2) := by decide +kernel
theorem dzL_law_237 : decode czL_law 237 = .ok (.aload_n 2, 1) := by decide +kernel
theorem dzL_law_238 : decode czL_law 238 = .ok (.invokevirtual 72, 3) := by decide +kernel
theorem dzL_law_241 : decode czL_law 241 = .ok (.iload 5, 2) := by decide +kernel
theorem dzL_law_243 : decode czL_law 243 = .ok (.if_icmp .eq 5, 3) := by decide +kernel
theorem dzL_law_246 : decode czL_law 246 = .ok (.iconst 0, 1) := by decide +kernel
theorem dzL_law_247 : decode czL_law 247 = .ok (.ireturn, 1) := by decide +kernel
theorem dzL_law_248 : decode czL_law 248 = .ok (.iload 5, 2) := by decide +kernel
theorem dzL_law_250 : decode czL_law 250 = .ok (.ifCond .ne 22, 3) := by decide +kernel
theorem dzL_law_253 : decode czL_law 253 = .ok (.aload_n 3, 1) := by decide +kernel
theorem dzL_law_254 : decode czL_law 254 = .ok (.iconst 0, 1) := by decide +kernel
theorem dzL_law_255 : decode czL_law 255 = .ok (.laload, 1) := by decide +kernel
theorem dzL_law_256 : decode czL_law 256 = .ok (.iload 6, 2) := by decide +kernel
theorem dzL_law_258 : decode czL_law 258 = .ok (.ifCond .eq 7, 3) := by decide +kernel
theorem dzL_law_261 : decode czL_law 261 = .ok (.lconst 1, 1) := by decide +kernel
theorem dzL_law_262 : decode czL_law 262 = .ok (.goto 4, 3) := by decide +kernel
theorem dzL_law_265 : decode czL_law 265 = .ok (.lconst 0, 1) := by decide +kernel
theorem dzL_law_266 : decode czL_law 266 = .ok (.lcmp, 1) := by decide +kernel
theorem dzL_law_267 : decode czL_law 267 = .ok (.ifCond .eq 5, 3) := by decide +kernel
theorem dzL_law_270 : decode czL_law 270 = .ok (.iconst 0, 1) := by decide +kernel
theorem dzL_law_271 : decode czL_law 271 = .ok (.ireturn, 1) := by decide +kernel
theorem dzL_law_272 : decode czL_law 272 = .ok (.goto 798, 3) := by decide +kernel
theorem dzL_law_275 : decode czL_law 275 = .ok (.aload_n 1, 1) := by decide +kernel
theorem dzL_law_276 : decode czL_law 276 = .ok (.invokevirtual 80, 3) := by decide +kernel
theorem dzL_law_279 : decode czL_law 279 = .ok (.aload_n 2, 1) := by decide +kernel
theorem dzL_law_280 : decode czL_law 280 = .ok (.invokevirtual 83, 3) := by decide +kernel
theorem dzL_law_283 : decode czL_law 283 = .ok (.if_icmp .eq 787, 3) := by decide +kernel
theorem dzL_law_286 : decode czL_law 286 = .ok (.iconst 0, 1) := by decide +kernel
theorem dzL_law_287 : decode czL_law 287 = .ok (.ireturn, 1) := by decide +kernel
theorem dzL_law_288 : decode czL_law 288 = .ok (.aload_n 1, 1) := by decide +kernel
theorem dzL_law_289 : decode czL_law 289 = .ok (.aload_n 0, 1) := by decide +kernel
theorem dzL_law_290 : decode czL_law 290 = .ok (.iload 4, 2) := by decide +kernel
theorem dzL_law_292 : decode czL_law 292 = .ok (.iconst 1, 1) := by decide +kernel
theorem dzL_law_293 : decode czL_law 293 = .ok (.iadd, 1) := by decide +kernel
theorem dzL_law_294 : decode czL_law 294 = .ok (.iaload, 1) := by decide +kernel
theorem dzL_law_295 : decode czL_law 295 = .ok (.aload_n 3, 1) := by decide +kernel
theorem dzL_law_296 : decode czL_law 296 = .ok (.invokestatic 84, 3) := by decide +kernel
theorem dzL_law_299 : decode czL_law 299 = .ok (.istore 5, 2) := by decide +kernel
theorem dzL_law_301 : decode czL_law 301 = .ok (.aload_n 2, 1) := by decide +kernel
theorem dzL_law_302 : decode czL_law 302 = .ok (.aload_n 0, 1) := by decide +kernel
theorem dzL_law_303 : decode czL_law 303 = .ok (.iload 4, 2) := by decide +kernel
theorem dzL_law_305 : decode czL_law 305 = .ok (.iconst 1, 1) := by decide +kernel
theorem dzL_law_306 : decode czL_law 306 = .ok (.iadd, 1) := by decide +kernel
theorem dzL_law_307 : decode czL_law 307 = .ok (.iaload, 1) := by decide +kernel
theorem dzL_law_308 : decode czL_law 308 = .ok (.invokevirtual 87, 3) := by decide +kernel
theorem dzL_law_311 : decode czL_law 311 = .ok (.istore 6, 2) := by decide +kernel
theorem dzL_law_313 : decode czL_law 313 = .ok (.aload_n 2, 1) := by decide +kernel
theorem dzL_law_314 : decode czL_law 314 = .ok (.invokevirtual 72, 3) := by decide +kernel
theorem dzL_law_317 : decode czL_law 317 = .ok (.iload 5, 2) := by decide +kernel
theorem dzL_law_319 : decode czL_law 319 = .ok (.if_icmp .eq 5, 3) := by decide +kernel
theorem dzL_law_322 : decode czL_law 322 = .ok (.iconst 0, 1) := by decide +kernel
theorem dzL_law_323 : decode czL_law 323 = .ok (.ireturn, 1) := by decide +kernel
theorem dzL_law_324 : decode czL_law 324 = .ok (.iload 5, 2) := by decide +kernel
theorem dzL_law_326 : decode czL_law 326 = .ok (.ifCond .ne 15, 3) := by decide +kernel
theorem dzL_law_329 : decode czL_law 329 = .ok (.aload_n 3, 1) := by decide +kernel
theorem dzL_law_330 : decode czL_law 330 = .ok (.iconst 0, 1) := by decide +kernel
theorem dzL_law_331 : decode czL_law 331 = .ok (.laload, 1) := by decide +kernel
theorem dzL_law_332 : decode czL_law 332 = .ok (.iload 6, 2) := by decide +kernel
theorem dzL_law_334 : decode czL_law 334 = .ok (.i2l, 1) := by decide +kernel
theorem dzL_law_335 : decode czL_law 335 = .ok (.lcmp, 1) := by decide +kernel
theorem dzL_law_336 : decode czL_law 336 = .ok (.ifCond .eq 5, 3) := by decide +kernel
theorem dzL_law_339 : decode czL_law 339 = .ok (.iconst 0, 1) := by decide +kernel
theorem dzL_law_340 : decode czL_law 340 = .ok (.ireturn, 1) := by decide +kernel
theorem dzL_law_341 : decode czL_law 341 = .ok (.goto 729, 3) := by decide +kernel
theorem dzL_law_344 : decode czL_law 344 = .ok (.aload_n 1, 1) := by decide +kernel
theorem dzL_law_345 : decode czL_law 345 = .ok (.aload_n 0, 1) := by decide +kernel
theorem dzL_law_346 : decode czL_law 346 = .ok (.iload 4, 2) := by decide +kernel
theorem dzL_law_348 : decode czL_law 348 = .ok (.iconst 1, 1) := by decide +kernel
theorem dzL_law_349 : decode czL_law 349 = .ok (.iadd, 1) := by decide +kernel
theorem dzL_law_350 : decode czL_law 350 = .ok (.iaload, 1) := by decide +kernel
theorem dzL_law_351 : decode czL_law 351 = .ok (.aload_n 0, 1) := by decide +kernel
theorem dzL_law_352 : decode czL_law 352 = .ok (.iload 4, 2) := by decide +kernel
theorem dzL_law_354 : decode czL_law 354 = .ok (.iconst 2, 1) := by decide +kernel
theorem dzL_law_355 : decode czL_law 355 = .ok (.iadd, 1) := by decide +kernel
theorem dzL_law_356 : decode czL_law 356 = .ok (.iaload, 1) := by decide +kernel
theorem dzL_law_357 : decode czL_law 357 = .ok (.aload_n 3, 1) := by decide +kernel
theorem dzL_law_358 : decode czL_law 358 = .ok (.invokestatic 88, 3) := by decide +kernel
theorem dzL_law_361 : decode czL_law 361 = .ok (.istore 5, 2) := by decide +kernel
theorem dzL_law_363 : decode czL_law 363 = .ok (.aload_n 2, 1) := by decide +kernel
theorem dzL_law_364 : decode czL_law 364 = .ok (.aload_n 0, 1) := by decide +kernel
theorem dzL_law_365 : decode czL_law 365 = .ok (.iload 4, 2) := by decide +kernel
theorem dzL_law_367 : decode czL_law 367 = .ok (.iconst 1, 1) := by decide +kernel
theorem dzL_law_368 : decode czL_law 368 = .ok (.iadd, 1) := by decide +kernel
theorem dzL_law_369 : decode czL_law 369 = .ok (.iaload, 1) := by decide +kernel
theorem dzL_law_370 : decode czL_law 370 = .ok (.aload_n 0, 1) := by decide +kernel
theorem dzL_law_371 : decode czL_law 371 = .ok (.iload 4, 2) := by decide +kernel
theorem dzL_law_373 : decode czL_law 373 = .ok (.iconst 2, 1) := by decide +kernel
theorem dzL_law_374 : decode czL_law 374 = .ok (.iadd, 1) := by decide +kernel
theorem dzL_law_375 : decode czL_law 375 = .ok (.iaload, 1) := by decide +kernel
theorem dzL_law_376 : decode czL_law 376 = .ok (.invokevirtual 91, 3) := by decide +kernel
theorem dzL_law_379 : decode czL_law 379 = .ok (.istore 6, 2) := by decide +kernel
theorem dzL_law_381 : decode czL_law 381 = .ok (.aload_n 2, 1) := by decide +kernel
theorem dzL_law_382 : decode czL_law 382 = .ok (.invokevirtual 72, 3) := by decide +kernel
theorem dzL_law_385 : decode czL_law 385 = .ok (.iload 5, 2) := by decide +kernel
theorem dzL_law_387 : decode czL_law 387 = .ok (.if_icmp .eq 5, 3) := by decide +kernel
theorem dzL_law_390 : decode czL_law 390 = .ok (.iconst 0, 1) := by decide +kernel
theorem dzL_law_391 : decode czL_law 391 = .ok (.ireturn, 1) := by decide +kernel
theorem dzL_law_392 : decode czL_law 392 = .ok (.iload 5, 2) := by decide +kernel
theorem dzL_law_394 : decode czL_law 394 = .ok (.ifCond .ne 15, 3) := by decide +kernel
theorem dzL_law_397 : decode czL_law 397 = .ok (.aload_n 3, 1) := by decide +kernel
theorem dzL_law_398 : decode czL_law 398 = .ok (.iconst 0, 1) := by decide +kernel
theorem dzL_law_399 : decode czL_law 399 = .ok (.laload, 1) := by decide +kernel
theorem dzL_law_400 : decode czL_law 400 = .ok (.iload 6, 2) := by decide +kernel
theorem dzL_law_402 : decode czL_law 402 = .ok (.i2l, 1) := by decide +kernel
theorem dzL_law_403 : decode czL_law 403 = .ok (.lcmp, 1) := by decide +kernel
theorem dzL_law_404 : decode czL_law 404 = .ok (.ifCond .eq 5, 3) := by decide +kernel
theorem dzL_law_407 : decode czL_law 407 = .ok (.iconst 0, 1) := by decide +kernel
theorem dzL_law_408 : decode czL_law 408 = .ok (.ireturn, 1) := by decide +kernel
theorem dzL_law_409 : decode czL_law 409 = .ok (.goto 661, 3) := by decide +kernel
theorem dzL_law_412 : decode czL_law 412 = .ok (.aload_n 1, 1) := by decide +kernel
theorem dzL_law_413 : decode czL_law 413 = .ok (.aload_n 0, 1) := by decide +kernel
theorem dzL_law_414 : decode czL_law 414 = .ok (.iload 4, 2) := by decide +kernel
theorem dzL_law_416 : decode czL_law 416 = .ok (.iconst 1, 1) := by decide +kernel
theorem dzL_law_417 : decode czL_law 417 = .ok (.iadd, 1) := by decide +kernel
theorem dzL_law_418 : decode czL_law 418 = .ok (.iaload, 1) := by decide +kernel
theorem dzL_law_419 : decode czL_law 419 = .ok (.aload_n 0, 1) := by decide +kernel
theorem dzL_law_420 : decode czL_law 420 = .ok (.iload 4, 2) := by decide +kernel
theorem dzL_law_422 : decode czL_law 422 = .ok (.iconst 2, 1) := by decide +kernel
theorem dzL_law_423 : decode czL_law 423 = .ok (.iadd, 1) := by decide +kernel
theorem dzL_law_424 : decode czL_law 424 = .ok (.iaload, 1) := by decide +kernel
theorem dzL_law_425 : decode czL_law 425 = .ok (.ifCond .eq 7, 3) := by decide +kernel
theorem dzL_law_428 : decode czL_law 428 = .ok (.iconst 1, 1) := by decide +kernel
theorem dzL_law_429 : decode czL_law 429 = .ok (.goto 4, 3) := by decide +kernel
theorem dzL_law_432 : decode czL_law 432 = .ok (.iconst 0, 1) := by decide +kernel
theorem dzL_law_433 : decode czL_law 433 = .ok (.aload_n 3, 1) := by decide +kernel
theorem dzL_law_434 : decode czL_law 434 = .ok (.invokestatic 92, 3) := by decide +kernel
theorem dzL_law_437 : decode czL_law 437 = .ok (.istore 5, 2) := by decide +kernel
theorem dzL_law_439 : decode czL_law 439 = .ok (.aload_n 2, 1) := by decide +kernel
theorem dzL_law_440 : decode czL_law 440 = .ok (.aload_n 0, 1) := by decide +kernel
theorem dzL_law_441 : decode czL_law 441 = .ok (.iload 4, 2) := by decide +kernel
theorem dzL_law_443 : decode czL_law 443 = .ok (.iconst 1, 1) := by decide +kernel
theorem dzL_law_444 : decode czL_law 444 = .ok (.iadd, 1) := by decide +kernel
theorem dzL_law_445 : decode czL_law 445 = .ok (.iaload, 1) := by decide +kernel
theorem dzL_law_446 : decode czL_law 446 = .ok (.aload_n 0, 1) := by decide +kernel
theorem dzL_law_447 : decode czL_law 447 = .ok (.iload 4, 2) := by decide +kernel
theorem dzL_law_449 : decode czL_law 449 = .ok (.iconst 2, 1) := by decide +kernel
theorem dzL_law_450 : decode czL_law 450 = .ok (.iadd, 1) := by decide +kernel
theorem dzL_law_451 : decode czL_law 451 = .ok (.iaload, 1) := by decide +kernel
theorem dzL_law_452 : decode czL_law 452 = .ok (.ifCond .eq 7, 3) := by decide +kernel
theorem dzL_law_455 : decode czL_law 455 = .ok (.iconst 1, 1) := by decide +kernel
theorem dzL_law_456 : decode czL_law 456 = .ok (.goto 4, 3) := by decide +kernel
theorem dzL_law_459 : decode czL_law 459 = .ok (.iconst 0, 1) := by decide +kernel
theorem dzL_law_460 : decode czL_law 460 = .ok (.invokevirtual 95, 3) := by decide +kernel
theorem dzL_law_463 : decode czL_law 463 = .ok (.istore 6, 2) := by decide +kernel
theorem dzL_law_465 : decode czL_law 465 = .ok (.aload_n 2, 1) := by decide +kernel
theorem dzL_law_466 : decode czL_law 466 = .ok (.invokevirtual 72, 3) := by decide +kernel
theorem dzL_law_469 : decode czL_law 469 = .ok (.iload 5, 2) := by decide +kernel
theorem dzL_law_471 : decode czL_law 471 = .ok (.if_icmp .eq 5, 3) := by decide +kernel
theorem dzL_law_474 : decode czL_law 474 = .ok (.iconst 0, 1) := by decide +kernel
theorem dzL_law_475 : decode czL_law 475 = .ok (.ireturn, 1) := by decide +kernel
theorem dzL_law_476 : decode czL_law 476 = .ok (.iload 5, 2) := by decide +kernel
theorem dzL_law_478 : decode czL_law 478 = .ok (.ifCond .ne 22, 3) := by decide +kernel
theorem dzL_law_481 : decode czL_law 481 = .ok (.aload_n 3, 1) := by decide +kernel
theorem dzL_law_482 : decode czL_law 482 = .ok (.iconst 0, 1) := by decide +kernel
theorem dzL_law_483 : decode czL_law 483 = .ok (.laload, 1) := by decide +kernel
theorem dzL_law_484 : decode czL_law 484 = .ok (.iload 6, 2) := by decide +kernel
theorem dzL_law_486 : decode czL_law 486 = .ok (.ifCond .eq 7, 3) := by decide +kernel
theorem dzL_law_489 : decode czL_law 489 = .ok (.lconst 1, 1) := by decide +kernel
theorem dzL_law_490 : decode czL_law 490 = .ok (.goto 4, 3) := by decide +kernel
theorem dzL_law_493 : decode czL_law 493 = .ok (.lconst 0, 1) := by decide +kernel
theorem dzL_law_494 : decode czL_law 494 = .ok (.lcmp, 1) := by decide +kernel
theorem dzL_law_495 : decode czL_law 495 = .ok (.ifCond .eq 5, 3) := by decide +kernel
theorem dzL_law_498 : decode czL_law 498 = .ok (.iconst 0, 1) := by decide +kernel
theorem dzL_law_499 : decode czL_law 499 = .ok (.ireturn, 1) := by decide +kernel
theorem dzL_law_500 : decode czL_law 500 = .ok (.goto 570, 3) := by decide +kernel
theorem dzL_law_503 : decode czL_law 503 = .ok (.aload_n 1, 1) := by decide +kernel
theorem dzL_law_504 : decode czL_law 504 = .ok (.aload_n 0, 1) := by decide +kernel
theorem dzL_law_505 : decode czL_law 505 = .ok (.iload 4, 2) := by decide +kernel
theorem dzL_law_507 : decode czL_law 507 = .ok (.iconst 1, 1) := by decide +kernel
theorem dzL_law_508 : decode czL_law 508 = .ok (.iadd, 1) := by decide +kernel
theorem dzL_law_509 : decode czL_law 509 = .ok (.iaload, 1) := by decide +kernel
theorem dzL_law_510 : decode czL_law 510 = .ok (.ifCond .eq 7, 3) := by decide +kernel
theorem dzL_law_513 : decode czL_law 513 = .ok (.iconst 1, 1) := by decide +kernel
theorem dzL_law_514 : decode czL_law 514 = .ok (.goto 4, 3) := by decide +kernel
theorem dzL_law_517 : decode czL_law 517 = .ok (.iconst 0, 1) := by decide +kernel
theorem dzL_law_518 : decode czL_law 518 = .ok (.invokevirtual 96, 3) := by decide +kernel
theorem dzL_law_521 : decode czL_law 521 = .ok (.aload_n 2, 1) := by decide +kernel
theorem dzL_law_522 : decode czL_law 522 = .ok (.aload_n 0, 1) := by decide +kernel
theorem dzL_law_523 : decode czL_law 523 = .ok (.iload 4, 2) := by decide +kernel
theorem dzL_law_525 : decode czL_law 525 = .ok (.iconst 1, 1) := by decide +kernel
theorem dzL_law_526 : decode czL_law 526 = .ok (.iadd, 1) := by decide +kernel
theorem dzL_law_527 : decode czL_law 527 = .ok (.iaload, 1) := by decide +kernel
theorem dzL_law_528 : decode czL_law 528 = .ok (.ifCond .eq 7, 3) := by decide +kernel
theorem dzL_law_531 : decode czL_law 531 = .ok (.iconst 1, 1) := by decide +kernel
theorem dzL_law_532 : decode czL_law 532 = .ok (.goto 4, 3) := by decide +kernel
theorem dzL_law_535 : decode czL_law 535 = .ok (.iconst 0, 1) := by decide +kernel
theorem dzL_law_536 : decode czL_law 536 = .ok (.invokevirtual 100, 3) := by decide +kernel
theorem dzL_law_539 : decode czL_law 539 = .ok (.if_icmp .eq 531, 3) := by decide +kernel
theorem dzL_law_542 : decode czL_law 542 = .ok (.iconst 0, 1) := by decide +kernel
theorem dzL_law_543 : decode czL_law 543 = .ok (.ireturn, 1) := by decide +kernel
theorem dzL_law_544 : decode czL_law 544 = .ok (.aload_n 1, 1) := by decide +kernel
theorem dzL_law_545 : decode czL_law 545 = .ok (.aload_n 0, 1) := by decide +kernel
theorem dzL_law_546 : decode czL_law 546 = .ok (.iload 4, 2) := by decide +kernel
theorem dzL_law_548 : decode czL_law 548 = .ok (.iconst 1, 1) := by decide +kernel
theorem dzL_law_549 : decode czL_law 549 = .ok (.iadd, 1) := by decide +kernel
theorem dzL_law_550 : decode czL_law 550 = .ok (.iaload, 1) := by decide +kernel
theorem dzL_law_551 : decode czL_law 551 = .ok (.aload_n 3, 1) := by decide +kernel
theorem dzL_law_552 : decode czL_law 552 = .ok (.invokestatic 101, 3) := by decide +kernel
theorem dzL_law_555 : decode czL_law 555 = .ok (.istore 5, 2) := by decide +kernel
theorem dzL_law_557 : decode czL_law 557 = .ok (.aload_n 2, 1) := by decide +kernel
theorem dzL_law_558 : decode czL_law 558 = .ok (.aload_n 0, 1) := by decide +kernel
theorem dzL_law_559 : decode czL_law 559 = .ok (.iload 4, 2) := by decide +kernel
theorem dzL_law_561 : decode czL_law 561 = .ok (.iconst 1, 1) := by decide +kernel
theorem dzL_law_562 : decode czL_law 562 = .ok (.iadd, 1) := by decide +kernel
theorem dzL_law_563 : decode czL_law 563 = .ok (.iaload, 1) := by decide +kernel
theorem dzL_law_564 : decode czL_law 564 = .ok (.invokevirtual 103, 3) := by decide +kernel
theorem dzL_law_567 : decode czL_law 567 = .ok (.istore 6, 2) := by decide +kernel
theorem dzL_law_569 : decode czL_law 569 = .ok (.aload_n 2, 1) := by decide +kernel
theorem dzL_law_570 : decode czL_law 570 = .ok (.invokevirtual 72, 3) := by decide +kernel
theorem dzL_law_573 : decode czL_law 573 = .ok (.iload 5, 2) := by decide +kernel
theorem dzL_law_575 : decode czL_law 575 = .ok (.if_icmp .eq 5, 3) := by decide +kernel
theorem dzL_law_578 : decode czL_law 578 = .ok (.iconst 0, 1) := by decide +kernel
theorem dzL_law_579 : decode czL_law 579 = .ok (.ireturn, 1) := by decide +kernel
theorem dzL_law_580 : decode czL_law 580 = .ok (.iload 5, 2) := by decide +kernel
theorem dzL_law_582 : decode czL_law 582 = .ok (.ifCond .ne 15, 3) := by decide +kernel
theorem dzL_law_585 : decode czL_law 585 = .ok (.aload_n 3, 1) := by decide +kernel
theorem dzL_law_586 : decode czL_law 586 = .ok (.iconst 0, 1) := by decide +kernel
theorem dzL_law_587 : decode czL_law 587 = .ok (.laload, 1) := by decide +kernel
theorem dzL_law_588 : decode czL_law 588 = .ok (.iload 6, 2) := by decide +kernel
theorem dzL_law_590 : decode czL_law 590 = .ok (.i2l, 1) := by decide +kernel
theorem dzL_law_591 : decode czL_law 591 = .ok (.lcmp, 1) := by decide +kernel
theorem dzL_law_592 : decode czL_law 592 = .ok (.ifCond .eq 5, 3) := by decide +kernel
theorem dzL_law_595 : decode czL_law 595 = .ok (.iconst 0, 1) := by decide +kernel
theorem dzL_law_596 : decode czL_law 596 = .ok (.ireturn, 1) := by decide +kernel
theorem dzL_law_597 : decode czL_law 597 = .ok (.goto 473, 3) := by decide +kernel
theorem dzL_law_600 : decode czL_law 600 = .ok (.aload_n 1, 1) := by decide +kernel
theorem dzL_law_601 : decode czL_law 601 = .ok (.aload_n 0, 1) := by decide +kernel
theorem dzL_law_602 : decode czL_law 602 = .ok (.iload 4, 2) := by decide +kernel
theorem dzL_law_604 : decode czL_law 604 = .ok (.iconst 1, 1) := by decide +kernel
theorem dzL_law_605 : decode czL_law 605 = .ok (.iadd, 1) := by decide +kernel
theorem dzL_law_606 : decode czL_law 606 = .ok (.iaload, 1) := by decide +kernel
theorem dzL_law_607 : decode czL_law 607 = .ok (.aload_n 3, 1) := by decide +kernel
theorem dzL_law_608 : decode czL_law 608 = .ok (.invokestatic 104, 3) := by decide +kernel
theorem dzL_law_611 : decode czL_law 611 = .ok (.istore 5, 2) := by decide +kernel
theorem dzL_law_613 : decode czL_law 613 = .ok (.aload_n 2, 1) := by decide +kernel
theorem dzL_law_614 : decode czL_law 614 = .ok (.aload_n 0, 1) := by decide +kernel
theorem dzL_law_615 : decode czL_law 615 = .ok (.iload 4, 2) := by decide +kernel
theorem dzL_law_617 : decode czL_law 617 = .ok (.iconst 1, 1) := by decide +kernel
theorem dzL_law_618 : decode czL_law 618 = .ok (.iadd, 1) := by decide +kernel
theorem dzL_law_619 : decode czL_law 619 = .ok (.iaload, 1) := by decide +kernel
theorem dzL_law_620 : decode czL_law 620 = .ok (.invokevirtual 106, 3) := by decide +kernel
theorem dzL_law_623 : decode czL_law 623 = .ok (.istore 6, 2) := by decide +kernel
theorem dzL_law_625 : decode czL_law 625 = .ok (.aload_n 2, 1) := by decide +kernel
theorem dzL_law_626 : decode czL_law 626 = .ok (.invokevirtual 72, 3) := by decide +kernel
theorem dzL_law_629 : decode czL_law 629 = .ok (.iload 5, 2) := by decide +kernel
theorem dzL_law_631 : decode czL_law 631 = .ok (.if_icmp .eq 5, 3) := by decide +kernel
theorem dzL_law_634 : decode czL_law 634 = .ok (.iconst 0, 1) := by decide +kernel
theorem dzL_law_635 : decode czL_law 635 = .ok (.ireturn, 1) := by decide +kernel
theorem dzL_law_636 : decode czL_law 636 = .ok (.iload 5, 2) := by decide +kernel
theorem dzL_law_638 : decode czL_law 638 = .ok (.ifCond .ne 22, 3) := by decide +kernel
theorem dzL_law_641 : decode czL_law 641 = .ok (.aload_n 3, 1) := by decide +kernel
theorem dzL_law_642 : decode czL_law 642 = .ok (.iconst 0, 1) := by decide +kernel
theorem dzL_law_643 : decode czL_law 643 = .ok (.laload, 1) := by decide +kernel
theorem dzL_law_644 : decode czL_law 644 = .ok (.iload 6, 2) := by decide +kernel
theorem dzL_law_646 : decode czL_law 646 = .ok (.ifCond .eq 7, 3) := by decide +kernel
theorem dzL_law_649 : decode czL_law 649 = .ok (.lconst 1, 1) := by decide +kernel
theorem dzL_law_650 : decode czL_law 650 = .ok (.goto 4, 3) := by decide +kernel
theorem dzL_law_653 : decode czL_law 653 = .ok (.lconst 0, 1) := by decide +kernel
theorem dzL_law_654 : decode czL_law 654 = .ok (.lcmp, 1) := by decide +kernel
theorem dzL_law_655 : decode czL_law 655 = .ok (.ifCond .eq 5, 3) := by decide +kernel
theorem dzL_law_658 : decode czL_law 658 = .ok (.iconst 0, 1) := by decide +kernel
theorem dzL_law_659 : decode czL_law 659 = .ok (.ireturn, 1) := by decide +kernel
theorem dzL_law_660 : decode czL_law 660 = .ok (.goto 410, 3) := by decide +kernel
theorem dzL_law_663 : decode czL_law 663 = .ok (.aload_n 1, 1) := by decide +kernel
theorem dzL_law_664 : decode czL_law 664 = .ok (.aload_n 0, 1) := by decide +kernel
theorem dzL_law_665 : decode czL_law 665 = .ok (.iload 4, 2) := by decide +kernel
theorem dzL_law_667 : decode czL_law 667 = .ok (.iconst 1, 1) := by decide +kernel
theorem dzL_law_668 : decode czL_law 668 = .ok (.iadd, 1) := by decide +kernel
theorem dzL_law_669 : decode czL_law 669 = .ok (.iaload, 1) := by decide +kernel
theorem dzL_law_670 : decode czL_law 670 = .ok (.aload_n 0, 1) := by decide +kernel
theorem dzL_law_671 : decode czL_law 671 = .ok (.iload 4, 2) := by decide +kernel
theorem dzL_law_673 : decode czL_law 673 = .ok (.iconst 2, 1) := by decide +kernel
theorem dzL_law_674 : decode czL_law 674 = .ok (.iadd, 1) := by decide +kernel
theorem dzL_law_675 : decode czL_law 675 = .ok (.iaload, 1) := by decide +kernel
theorem dzL_law_676 : decode czL_law 676 = .ok (.aload_n 0, 1) := by decide +kernel
theorem dzL_law_677 : decode czL_law 677 = .ok (.iload 4, 2) := by decide +kernel
theorem dzL_law_679 : decode czL_law 679 = .ok (.iconst 3, 1) := by decide +kernel
theorem dzL_law_680 : decode czL_law 680 = .ok (.iadd, 1) := by decide +kernel
theorem dzL_law_681 : decode czL_law 681 = .ok (.iaload, 1) := by decide +kernel
theorem dzL_law_682 : decode czL_law 682 = .ok (.invokestatic 107, 3) := by decide +kernel
theorem dzL_law_685 : decode czL_law 685 = .ok (.istore 5, 2) := by decide +kernel
theorem dzL_law_687 : decode czL_law 687 = .ok (.aload_n 2, 1) := by decide +kernel
theorem dzL_law_688 : decode czL_law 688 = .ok (.aload_n 0, 1) := by decide +kernel
theorem dzL_law_689 : decode czL_law 689 = .ok (.iload 4, 2) := by decide +kernel
theorem dzL_law_691 : decode czL_law 691 = .ok (.iconst 1, 1) := by decide +kernel
theorem dzL_law_692 : decode czL_law 692 = .ok (.iadd, 1) := by decide +kernel
theorem dzL_law_693 : decode czL_law 693 = .ok (.iaload, 1) := by decide +kernel
theorem dzL_law_694 : decode czL_law 694 = .ok (.aload_n 0, 1) := by decide +kernel
theorem dzL_law_695 : decode czL_law 695 = .ok (.iload 4, 2) := by decide +kernel
theorem dzL_law_697 : decode czL_law 697 = .ok (.iconst 2, 1) := by decide +kernel
theorem dzL_law_698 : decode czL_law 698 = .ok (.iadd, 1) := by decide +kernel
theorem dzL_law_699 : decode czL_law 699 = .ok (.iaload, 1) := by decide +kernel
theorem dzL_law_700 : decode czL_law 700 = .ok (.aload_n 0, 1) := by decide +kernel
theorem dzL_law_701 : decode czL_law 701 = .ok (.iload 4, 2) := by decide +kernel
theorem dzL_law_703 : decode czL_law 703 = .ok (.iconst 3, 1) := by decide +kernel
theorem dzL_law_704 : decode czL_law 704 = .ok (.iadd, 1) := by decide +kernel
theorem dzL_law_705 : decode czL_law 705 = .ok (.iaload, 1) := by decide +kernel
theorem dzL_law_706 : decode czL_law 706 = .ok (.invokevirtual 109, 3) := by decide +kernel
theorem dzL_law_709 : decode czL_law 709 = .ok (.aload_n 2, 1) := by decide +kernel
theorem dzL_law_710 : decode czL_law 710 = .ok (.invokevirtual 72, 3) := by decide +kernel
theorem dzL_law_713 : decode czL_law 713 = .ok (.iload 5, 2) := by decide +kernel
theorem dzL_law_715 : decode czL_law 715 = .ok (.if_icmp .eq 5, 3) := by decide +kernel
theorem dzL_law_718 : decode czL_law 718 = .ok (.iconst 0, 1) := by decide +kernel
theorem dzL_law_719 : decode czL_law 719 = .ok (.ireturn, 1) := by decide +kernel
theorem dzL_law_720 : decode czL_law 720 = .ok (.goto 350, 3) := by decide +kernel
theorem dzL_law_723 : decode czL_law 723 = .ok (.aload_n 1, 1) := by decide +kernel
theorem dzL_law_724 : decode czL_law 724 = .ok (.aload_n 0, 1) := by decide +kernel
theorem dzL_law_725 : decode czL_law 725 = .ok (.iload 4, 2) := by decide +kernel
theorem dzL_law_727 : decode czL_law 727 = .ok (.iconst 1, 1) := by decide +kernel
theorem dzL_law_728 : decode czL_law 728 = .ok (.iadd, 1) := by decide +kernel
theorem dzL_law_729 : decode czL_law 729 = .ok (.iaload, 1) := by decide +kernel
theorem dzL_law_730 : decode czL_law 730 = .ok (.aload_n 0, 1) := by decide +kernel
theorem dzL_law_731 : decode czL_law 731 = .ok (.iload 4, 2) := by decide +kernel
theorem dzL_law_733 : decode czL_law 733 = .ok (.iconst 2, 1) := by decide +kernel
theorem dzL_law_734 : decode czL_law 734 = .ok (.iadd, 1) := by decide +kernel
theorem dzL_law_735 : decode czL_law 735 = .ok (.iaload, 1) := by decide +kernel
theorem dzL_law_736 : decode czL_law 736 = .ok (.aload_n 0, 1) := by decide +kernel
theorem dzL_law_737 : decode czL_law 737 = .ok (.iload 4, 2) := by decide +kernel
theorem dzL_law_739 : decode czL_law 739 = .ok (.iconst 3, 1) := by decide +kernel
theorem dzL_law_740 : decode czL_law 740 = .ok (.iadd, 1) := by decide +kernel
theorem dzL_law_741 : decode czL_law 741 = .ok (.iaload, 1) := by decide +kernel
theorem dzL_law_742 : decode czL_law 742 = .ok (.aload_n 3, 1) := by decide +kernel
theorem dzL_law_743 : decode czL_law 743 = .ok (.invokestatic 110, 3) := by decide +kernel
theorem dzL_law_746 : decode czL_law 746 = .ok (.istore 5, 2) := by decide +kernel
theorem dzL_law_748 : decode czL_law 748 = .ok (.aload_n 2, 1) := by decide +kernel
theorem dzL_law_749 : decode czL_law 749 = .ok (.aload_n 0, 1) := by decide +kernel
theorem dzL_law_750 : decode czL_law 750 = .ok (.iload 4, 2) := by decide +kernel
theorem dzL_law_752 : decode czL_law 752 = .ok (.iconst 1, 1) := by decide +kernel
theorem dzL_law_753 : decode czL_law 753 = .ok (.iadd, 1) := by decide +kernel
theorem dzL_law_754 : decode czL_law 754 = .ok (.iaload, 1) := by decide +kernel
theorem dzL_law_755 : decode czL_law 755 = .ok (.aload_n 0, 1) := by decide +kernel
theorem dzL_law_756 : decode czL_law 756 = .ok (.iload 4, 2) := by decide +kernel
theorem dzL_law_758 : decode czL_law 758 = .ok (.iconst 2, 1) := by decide +kernel
theorem dzL_law_759 : decode czL_law 759 = .ok (.iadd, 1) := by decide +kernel
theorem dzL_law_760 : decode czL_law 760 = .ok (.iaload, 1) := by decide +kernel
theorem dzL_law_761 : decode czL_law 761 = .ok (.aload_n 0, 1) := by decide +kernel
theorem dzL_law_762 : decode czL_law 762 = .ok (.iload 4, 2) := by decide +kernel
theorem dzL_law_764 : decode czL_law 764 = .ok (.iconst 3, 1) := by decide +kernel
theorem dzL_law_765 : decode czL_law 765 = .ok (.iadd, 1) := by decide +kernel
theorem dzL_law_766 : decode czL_law 766 = .ok (.iaload, 1) := by decide +kernel
theorem dzL_law_767 : decode czL_law 767 = .ok (.invokevirtual 113, 3) := by decide +kernel
theorem dzL_law_770 : decode czL_law 770 = .ok (.istore 6, 2) := by decide +kernel
theorem dzL_law_772 : decode czL_law 772 = .ok (.aload_n 2, 1) := by decide +kernel
theorem dzL_law_773 : decode czL_law 773 = .ok (.invokevirtual 72, 3) := by decide +kernel
theorem dzL_law_776 : decode czL_law 776 = .ok (.iload 5, 2) := by decide +kernel
theorem dzL_law_778 : decode czL_law 778 = .ok (.if_icmp .eq 5, 3) := by decide +kernel
theorem dzL_law_781 : decode czL_law 781 = .ok (.iconst 0, 1) := by decide +kernel
theorem dzL_law_782 : decode czL_law 782 = .ok (.ireturn, 1) := by decide +kernel
theorem dzL_law_783 : decode czL_law 783 = .ok (.iload 5, 2) := by decide +kernel
theorem dzL_law_785 : decode czL_law 785 = .ok (.ifCond .ne 22, 3) := by decide +kernel
theorem dzL_law_788 : decode czL_law 788 = .ok (.aload_n 3, 1) := by decide +kernel
theorem dzL_law_789 : decode czL_law 789 = .ok (.iconst 0, 1) := by decide +kernel
theorem dzL_law_790 : decode czL_law 790 = .ok (.laload, 1) := by decide +kernel
theorem dzL_law_791 : decode czL_law 791 = .ok (.iload 6, 2) := by decide +kernel
theorem dzL_law_793 : decode czL_law 793 = .ok (.ifCond .eq 7, 3) := by decide +kernel
theorem dzL_law_796 : decode czL_law 796 = .ok (.lconst 1, 1) := by decide +kernel
theorem dzL_law_797 : decode czL_law 797 = .ok (.goto 4, 3) := by decide +kernel
theorem dzL_law_800 : decode czL_law 800 = .ok (.lconst 0, 1) := by decide +kernel
theorem dzL_law_801 : decode czL_law 801 = .ok (.lcmp, 1) := by decide +kernel
theorem dzL_law_802 : decode czL_law 802 = .ok (.ifCond .eq 5, 3) := by decide +kernel
theorem dzL_law_805 : decode czL_law 805 = .ok (.iconst 0, 1) := by decide +kernel
theorem dzL_law_806 : decode czL_law 806 = .ok (.ireturn, 1) := by decide +kernel
theorem dzL_law_807 : decode czL_law 807 = .ok (.goto 263, 3) := by decide +kernel
theorem dzL_law_810 : decode czL_law 810 = .ok (.aload_n 1, 1) := by decide +kernel
theorem dzL_law_811 : decode czL_law 811 = .ok (.aload_n 0, 1) := by decide +kernel
theorem dzL_law_812 : decode czL_law 812 = .ok (.iload 4, 2) := by decide +kernel
theorem dzL_law_814 : decode czL_law 814 = .ok (.iconst 1, 1) := by decide +kernel
theorem dzL_law_815 : decode czL_law 815 = .ok (.iadd, 1) := by decide +kernel
theorem dzL_law_816 : decode czL_law 816 = .ok (.iaload, 1) := by decide +kernel
theorem dzL_law_817 : decode czL_law 817 = .ok (.aload_n 0, 1) := by decide +kernel
theorem dzL_law_818 : decode czL_law 818 = .ok (.iload 4, 2) := by decide +kernel
theorem dzL_law_820 : decode czL_law 820 = .ok (.iconst 2, 1) := by decide +kernel
theorem dzL_law_821 : decode czL_law 821 = .ok (.iadd, 1) := by decide +kernel
theorem dzL_law_822 : decode czL_law 822 = .ok (.iaload, 1) := by decide +kernel
theorem dzL_law_823 : decode czL_law 823 = .ok (.aload_n 0, 1) := by decide +kernel
theorem dzL_law_824 : decode czL_law 824 = .ok (.iload 4, 2) := by decide +kernel
theorem dzL_law_826 : decode czL_law 826 = .ok (.iconst 3, 1) := by decide +kernel
theorem dzL_law_827 : decode czL_law 827 = .ok (.iadd, 1) := by decide +kernel
theorem dzL_law_828 : decode czL_law 828 = .ok (.iaload, 1) := by decide +kernel
theorem dzL_law_829 : decode czL_law 829 = .ok (.aload_n 3, 1) := by decide +kernel
theorem dzL_law_830 : decode czL_law 830 = .ok (.invokestatic 114, 3) := by decide +kernel
theorem dzL_law_833 : decode czL_law 833 = .ok (.istore 5, 2) := by decide +kernel
theorem dzL_law_835 : decode czL_law 835 = .ok (.aload_n 2, 1) := by decide +kernel
theorem dzL_law_836 : decode czL_law 836 = .ok (.aload_n 0, 1) := by decide +kernel
theorem dzL_law_837 : decode czL_law 837 = .ok (.iload 4, 2) := by decide +kernel
theorem dzL_law_839 : decode czL_law 839 = .ok (.iconst 1, 1) := by decide +kernel
theorem dzL_law_840 : decode czL_law 840 = .ok (.iadd, 1) := by decide +kernel
theorem dzL_law_841 : decode czL_law 841 = .ok (.iaload, 1) := by decide +kernel
theorem dzL_law_842 : decode czL_law 842 = .ok (.aload_n 0, 1) := by decide +kernel
theorem dzL_law_843 : decode czL_law 843 = .ok (.iload 4, 2) := by decide +kernel
theorem dzL_law_845 : decode czL_law 845 = .ok (.iconst 2, 1) := by decide +kernel
theorem dzL_law_846 : decode czL_law 846 = .ok (.iadd, 1) := by decide +kernel
theorem dzL_law_847 : decode czL_law 847 = .ok (.iaload, 1) := by decide +kernel
theorem dzL_law_848 : decode czL_law 848 = .ok (.aload_n 0, 1) := by decide +kernel
theorem dzL_law_849 : decode czL_law 849 = .ok (.iload 4, 2) := by decide +kernel
theorem dzL_law_851 : decode czL_law 851 = .ok (.iconst 3, 1) := by decide +kernel
theorem dzL_law_852 : decode czL_law 852 = .ok (.iadd, 1) := by decide +kernel
theorem dzL_law_853 : decode czL_law 853 = .ok (.iaload, 1) := by decide +kernel
theorem dzL_law_854 : decode czL_law 854 = .ok (.invokevirtual 116, 3) := by decide +kernel
theorem dzL_law_857 : decode czL_law 857 = .ok (.istore 6, 2) := by decide +kernel
theorem dzL_law_859 : decode czL_law 859 = .ok (.aload_n 2, 1) := by decide +kernel
theorem dzL_law_860 : decode czL_law 860 = .ok (.invokevirtual 72, 3) := by decide +kernel
theorem dzL_law_863 : decode czL_law 863 = .ok (.iload 5, 2) := by decide +kernel
theorem dzL_law_865 : decode czL_law 865 = .ok (.if_icmp .eq 5, 3) := by decide +kernel
theorem dzL_law_868 : decode czL_law 868 = .ok (.iconst 0, 1) := by decide +kernel
theorem dzL_law_869 : decode czL_law 869 = .ok (.ireturn, 1) := by decide +kernel
theorem dzL_law_870 : decode czL_law 870 = .ok (.iload 5, 2) := by decide +kernel
theorem dzL_law_872 : decode czL_law 872 = .ok (.ifCond .ne 15, 3) := by decide +kernel
theorem dzL_law_875 : decode czL_law 875 = .ok (.aload_n 3, 1) := by decide +kernel
theorem dzL_law_876 : decode czL_law 876 = .ok (.iconst 0, 1) := by decide +kernel
theorem dzL_law_877 : decode czL_law 877 = .ok (.laload, 1) := by decide +kernel
theorem dzL_law_878 : decode czL_law 878 = .ok (.iload 6, 2) := by decide +kernel
theorem dzL_law_880 : decode czL_law 880 = .ok (.i2l, 1) := by decide +kernel
theorem dzL_law_881 : decode czL_law 881 = .ok (.lcmp, 1) := by decide +kernel
theorem dzL_law_882 : decode czL_law 882 = .ok (.ifCond .eq 5, 3) := by decide +kernel
theorem dzL_law_885 : decode czL_law 885 = .ok (.iconst 0, 1) := by decide +kernel
theorem dzL_law_886 : decode czL_law 886 = .ok (.ireturn, 1) := by decide +kernel
theorem dzL_law_887 : decode czL_law 887 = .ok (.goto 183, 3) := by decide +kernel
theorem dzL_law_890 : decode czL_law 890 = .ok (.aload_n 1, 1) := by decide +kernel
theorem dzL_law_891 : decode czL_law 891 = .ok (.aload_n 0, 1) := by decide +kernel
theorem dzL_law_892 : decode czL_law 892 = .ok (.iload 4, 2) := by decide +kernel
theorem dzL_law_894 : decode czL_law 894 = .ok (.iconst 1, 1) := by decide +kernel
theorem dzL_law_895 : decode czL_law 895 = .ok (.iadd, 1) := by decide +kernel
theorem dzL_law_896 : decode czL_law 896 = .ok (.iaload, 1) := by decide +kernel
theorem dzL_law_897 : decode czL_law 897 = .ok (.aload_n 3, 1) := by decide +kernel
theorem dzL_law_898 : decode czL_law 898 = .ok (.invokestatic 117, 3) := by decide +kernel
theorem dzL_law_901 : decode czL_law 901 = .ok (.istore 5, 2) := by decide +kernel
theorem dzL_law_903 : decode czL_law 903 = .ok (.aload_n 2, 1) := by decide +kernel
theorem dzL_law_904 : decode czL_law 904 = .ok (.aload_n 0, 1) := by decide +kernel
theorem dzL_law_905 : decode czL_law 905 = .ok (.iload 4, 2) := by decide +kernel
theorem dzL_law_907 : decode czL_law 907 = .ok (.iconst 1, 1) := by decide +kernel
theorem dzL_law_908 : decode czL_law 908 = .ok (.iadd, 1) := by decide +kernel
theorem dzL_law_909 : decode czL_law 909 = .ok (.iaload, 1) := by decide +kernel
theorem dzL_law_910 : decode czL_law 910 = .ok (.invokevirtual 119, 3) := by decide +kernel
theorem dzL_law_913 : decode czL_law 913 = .ok (.istore 6, 2) := by decide +kernel
theorem dzL_law_915 : decode czL_law 915 = .ok (.aload_n 2, 1) := by decide +kernel
theorem dzL_law_916 : decode czL_law 916 = .ok (.invokevirtual 72, 3) := by decide +kernel
theorem dzL_law_919 : decode czL_law 919 = .ok (.iload 5, 2) := by decide +kernel
theorem dzL_law_921 : decode czL_law 921 = .ok (.if_icmp .eq 5, 3) := by decide +kernel
theorem dzL_law_924 : decode czL_law 924 = .ok (.iconst 0, 1) := by decide +kernel
theorem dzL_law_925 : decode czL_law 925 = .ok (.ireturn, 1) := by decide +kernel
theorem dzL_law_926 : decode czL_law 926 = .ok (.iload 5, 2) := by decide +kernel
theorem dzL_law_928 : decode czL_law 928 = .ok (.ifCond .ne 15, 3) := by decide +kernel
theorem dzL_law_931 : decode czL_law 931 = .ok (.aload_n 3, 1) := by decide +kernel
theorem dzL_law_932 : decode czL_law 932 = .ok (.iconst 0, 1) := by decide +kernel
theorem dzL_law_933 : decode czL_law 933 = .ok (.laload, 1) := by decide +kernel
theorem dzL_law_934 : decode czL_law 934 = .ok (.iload 6, 2) := by decide +kernel
theorem dzL_law_936 : decode czL_law 936 = .ok (.i2l, 1) := by decide +kernel
theorem dzL_law_937 : decode czL_law 937 = .ok (.lcmp, 1) := by decide +kernel
theorem dzL_law_938 : decode czL_law 938 = .ok (.ifCond .eq 5, 3) := by decide +kernel
theorem dzL_law_941 : decode czL_law 941 = .ok (.iconst 0, 1) := by decide +kernel
theorem dzL_law_942 : decode czL_law 942 = .ok (.ireturn, 1) := by decide +kernel
theorem dzL_law_943 : decode czL_law 943 = .ok (.goto 127, 3) := by decide +kernel
theorem dzL_law_946 : decode czL_law 946 = .ok (.aload_n 1, 1) := by decide +kernel
theorem dzL_law_947 : decode czL_law 947 = .ok (.aload_n 0, 1) := by decide +kernel
theorem dzL_law_948 : decode czL_law 948 = .ok (.iload 4, 2) := by decide +kernel
theorem dzL_law_950 : decode czL_law 950 = .ok (.iconst 1, 1) := by decide +kernel
theorem dzL_law_951 : decode czL_law 951 = .ok (.iadd, 1) := by decide +kernel
theorem dzL_law_952 : decode czL_law 952 = .ok (.iaload, 1) := by decide +kernel
theorem dzL_law_953 : decode czL_law 953 = .ok (.aload_n 3, 1) := by decide +kernel
theorem dzL_law_954 : decode czL_law 954 = .ok (.invokestatic 120, 3) := by decide +kernel
theorem dzL_law_957 : decode czL_law 957 = .ok (.istore 5, 2) := by decide +kernel
theorem dzL_law_959 : decode czL_law 959 = .ok (.aload_n 2, 1) := by decide +kernel
theorem dzL_law_960 : decode czL_law 960 = .ok (.aload_n 0, 1) := by decide +kernel
theorem dzL_law_961 : decode czL_law 961 = .ok (.iload 4, 2) := by decide +kernel
theorem dzL_law_963 : decode czL_law 963 = .ok (.iconst 1, 1) := by decide +kernel
theorem dzL_law_964 : decode czL_law 964 = .ok (.iadd, 1) := by decide +kernel
theorem dzL_law_965 : decode czL_law 965 = .ok (.iaload, 1) := by decide +kernel
theorem dzL_law_966 : decode czL_law 966 = .ok (.invokevirtual 122, 3) := by decide +kernel
theorem dzL_law_969 : decode czL_law 969 = .ok (.istore 6, 2) := by decide +kernel
theorem dzL_law_971 : decode czL_law 971 = .ok (.aload_n 2, 1) := by decide +kernel
theorem dzL_law_972 : decode czL_law 972 = .ok (.invokevirtual 72, 3) := by decide +kernel
theorem dzL_law_975 : decode czL_law 975 = .ok (.iload 5, 2) := by decide +kernel
theorem dzL_law_977 : decode czL_law 977 = .ok (.if_icmp .eq 5, 3) := by decide +kernel
theorem dzL_law_980 : decode czL_law 980 = .ok (.iconst 0, 1) := by decide +kernel
theorem dzL_law_981 : decode czL_law 981 = .ok (.ireturn, 1) := by decide +kernel
theorem dzL_law_982 : decode czL_law 982 = .ok (.iload 5, 2) := by decide +kernel
theorem dzL_law_984 : decode czL_law 984 = .ok (.ifCond .ne 15, 3) := by decide +kernel
theorem dzL_law_987 : decode czL_law 987 = .ok (.aload_n 3, 1) := by decide +kernel
theorem dzL_law_988 : decode czL_law 988 = .ok (.iconst 0, 1) := by decide +kernel
theorem dzL_law_989 : decode czL_law 989 = .ok (.laload, 1) := by decide +kernel
theorem dzL_law_990 : decode czL_law 990 = .ok (.iload 6, 2) := by decide +kernel
theorem dzL_law_992 : decode czL_law 992 = .ok (.i2l, 1) := by decide +kernel
theorem dzL_law_993 : decode czL_law 993 = .ok (.lcmp, 1) := by decide +kernel
theorem dzL_law_994 : decode czL_law 994 = .ok (.ifCond .eq 5, 3) := by decide +kernel
theorem dzL_law_997 : decode czL_law 997 = .ok (.iconst 0, 1) := by decide +kernel
theorem dzL_law_998 : decode czL_law 998 = .ok (.ireturn, 1) := by decide +kernel
theorem dzL_law_999 : decode czL_law 999 = .ok (.goto 71, 3) := by decide +kernel
theorem dzL_law_1002 : decode czL_law 1002 = .ok (.aload_n 1, 1) := by decide +kernel
theorem dzL_law_1003 : decode czL_law 1003 = .ok (.aload_n 0, 1) := by decide +kernel
theorem dzL_law_1004 : decode czL_law 1004 = .ok (.iload 4, 2) := by decide +kernel
theorem dzL_law_1006 : decode czL_law 1006 = .ok (.iconst 1, 1) := by decide +kernel
theorem dzL_law_1007 : decode czL_law 1007 = .ok (.iadd, 1) := by decide +kernel
theorem dzL_law_1008 : decode czL_law 1008 = .ok (.iaload, 1) := by decide +kernel
theorem dzL_law_1009 : decode czL_law 1009 = .ok (.aload_n 0, 1) := by decide +kernel
theorem dzL_law_1010 : decode czL_law 1010 = .ok (.iload 4, 2) := by decide +kernel
theorem dzL_law_1012 : decode czL_law 1012 = .ok (.iconst 2, 1) := by decide +kernel
theorem dzL_law_1013 : decode czL_law 1013 = .ok (.iadd, 1) := by decide +kernel
theorem dzL_law_1014 : decode czL_law 1014 = .ok (.iaload, 1) := by decide +kernel
theorem dzL_law_1015 : decode czL_law 1015 = .ok (.aload_n 3, 1) := by decide +kernel
theorem dzL_law_1016 : decode czL_law 1016 = .ok (.invokestatic 123, 3) := by decide +kernel
theorem dzL_law_1019 : decode czL_law 1019 = .ok (.istore 5, 2) := by decide +kernel
theorem dzL_law_1021 : decode czL_law 1021 = .ok (.aload_n 2, 1) := by decide +kernel
theorem dzL_law_1022 : decode czL_law 1022 = .ok (.aload_n 0, 1) := by decide +kernel
theorem dzL_law_1023 : decode czL_law 1023 = .ok (.iload 4, 2) := by decide +kernel
theorem dzL_law_1025 : decode czL_law 1025 = .ok (.iconst 1, 1) := by decide +kernel
theorem dzL_law_1026 : decode czL_law 1026 = .ok (.iadd, 1) := by decide +kernel
theorem dzL_law_1027 : decode czL_law 1027 = .ok (.iaload, 1) := by decide +kernel
theorem dzL_law_1028 : decode czL_law 1028 = .ok (.aload_n 0, 1) := by decide +kernel
theorem dzL_law_1029 : decode czL_law 1029 = .ok (.iload 4, 2) := by decide +kernel
theorem dzL_law_1031 : decode czL_law 1031 = .ok (.iconst 2, 1) := by decide +kernel
theorem dzL_law_1032 : decode czL_law 1032 = .ok (.iadd, 1) := by decide +kernel
theorem dzL_law_1033 : decode czL_law 1033 = .ok (.iaload, 1) := by decide +kernel
theorem dzL_law_1034 : decode czL_law 1034 = .ok (.invokevirtual 125, 3) := by decide +kernel
theorem dzL_law_1037 : decode czL_law 1037 = .ok (.istore 6, 2) := by decide +kernel
theorem dzL_law_1039 : decode czL_law 1039 = .ok (.aload_n 2, 1) := by decide +kernel
theorem dzL_law_1040 : decode czL_law 1040 = .ok (.invokevirtual 72, 3) := by decide +kernel
theorem dzL_law_1043 : decode czL_law 1043 = .ok (.iload 5, 2) := by decide +kernel
theorem dzL_law_1045 : decode czL_law 1045 = .ok (.if_icmp .eq 5, 3) := by decide +kernel
theorem dzL_law_1048 : decode czL_law 1048 = .ok (.iconst 0, 1) := by decide +kernel
theorem dzL_law_1049 : decode czL_law 1049 = .ok (.ireturn, 1) := by decide +kernel
theorem dzL_law_1050 : decode czL_law 1050 = .ok (.iload 5, 2) := by decide +kernel
theorem dzL_law_1052 : decode czL_law 1052 = .ok (.ifCond .ne 15, 3) := by decide +kernel
theorem dzL_law_1055 : decode czL_law 1055 = .ok (.aload_n 3, 1) := by decide +kernel
theorem dzL_law_1056 : decode czL_law 1056 = .ok (.iconst 0, 1) := by decide +kernel
theorem dzL_law_1057 : decode czL_law 1057 = .ok (.laload, 1) := by decide +kernel
theorem dzL_law_1058 : decode czL_law 1058 = .ok (.iload 6, 2) := by decide +kernel
theorem dzL_law_1060 : decode czL_law 1060 = .ok (.i2l, 1) := by decide +kernel
theorem dzL_law_1061 : decode czL_law 1061 = .ok (.lcmp, 1) := by decide +kernel
theorem dzL_law_1062 : decode czL_law 1062 = .ok (.ifCond .eq 5, 3) := by decide +kernel
theorem dzL_law_1065 : decode czL_law 1065 = .ok (.iconst 0, 1) := by decide +kernel
theorem dzL_law_1066 : decode czL_law 1066 = .ok (.ireturn, 1) := by decide +kernel
theorem dzL_law_1067 : decode czL_law 1067 = .ok (.goto 3, 3) := by decide +kernel
theorem dzL_law_1070 : decode czL_law 1070 = .ok (.iinc 4 4, 3) := by decide +kernel
theorem dzL_law_1073 : decode czL_law 1073 = .ok (.goto (-1050), 3) := by decide +kernel
theorem dzL_law_1076 : decode czL_law 1076 = .ok (.iconst 1, 1) := by decide +kernel
theorem dzL_law_1077 : decode czL_law 1077 = .ok (.ireturn, 1) := by decide +kernel
