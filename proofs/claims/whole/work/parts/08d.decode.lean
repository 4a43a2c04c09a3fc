theorem d_L_node_0 : decode c_L_node 0 = .ok (.aload 7, 2) := by decide +kernel
theorem d_L_node_2 : decode c_L_node 2 = .ok (.iconst 0, 1) := by decide +kernel
theorem d_L_node_3 : decode c_L_node 3 = .ok (.aload_n 0, 1) := by decide +kernel
theorem d_L_node_4 : decode c_L_node 4 = .ok (.iload_n 1, 1) := by decide +kernel
theorem d_L_node_5 : decode c_L_node 5 = .ok (.iload_n 2, 1) := by decide +kernel
theorem d_L_node_6 : decode c_L_node 6 = .ok (.iload_n 3, 1) := by decide +kernel
theorem d_L_node_7 : decode c_L_node 7 = .ok (.iload 4, 2) := by decide +kernel
theorem d_L_node_9 : decode c_L_node 9 = .ok (.lload 5, 2) := by decide +kernel
theorem d_L_node_11 : decode c_L_node 11 = .ok (.invokevirtual 7, 3) := by decide +kernel
theorem d_L_node_14 : decode c_L_node 14 = .ok (.i2l, 1) := by decide +kernel
theorem d_L_node_15 : decode c_L_node 15 = .ok (.lastore, 1) := by decide +kernel
theorem d_L_node_16 : decode c_L_node 16 = .ok (.goto 11, 3) := by decide +kernel
theorem d_L_node_19 : decode c_L_node 19 = .ok (.astore 8, 2) := by decide +kernel
theorem d_L_node_21 : decode c_L_node 21 = .ok (.iconst 1, 1) := by decide +kernel
theorem d_L_node_22 : decode c_L_node 22 = .ok (.ireturn, 1) := by decide +kernel
theorem d_L_node_23 : decode c_L_node 23 = .ok (.astore 8, 2) := by decide +kernel
theorem d_L_node_25 : decode c_L_node 25 = .ok (.iconst 2, 1) := by decide +kernel
theorem d_L_node_26 : decode c_L_node 26 = .ok (.ireturn, 1) := by decide +kernel
theorem d_L_node_27 : decode c_L_node 27 = .ok (.iconst 0, 1) := by decide +kernel
theorem d_L_node_28 : decode c_L_node 28 = .ok (.ireturn, 1) := by decide +kernel
theorem d_L_link_0 : decode c_L_link 0 = .ok (.aload 7, 2) := by decide +kernel
theorem d_L_link_2 : decode c_L_link 2 = .ok (.iconst 0, 1) := by decide +kernel
theorem d_L_link_3 : decode c_L_link 3 = .ok (.aload_n 0, 1) := by decide +kernel
theorem d_L_link_4 : decode c_L_link 4 = .ok (.iload_n 1, 1) := by decide +kernel
theorem d_L_link_5 : decode c_L_link 5 = .ok (.iload_n 2, 1) := by decide +kernel
theorem d_L_link_6 : decode c_L_link 6 = .ok (.iload_n 3, 1) := by decide +kernel
theorem d_L_link_7 : decode c_L_link 7 = .ok (.iload 4, 2) := by decide +kernel
theorem d_L_link_9 : decode c_L_link 9 = .ok (.iload 5, 2) := by decide +kernel
theorem d_L_link_11 : decode c_L_link 11 = .ok (.iload 6, 2) := by decide +kernel
theorem d_L_link_13 : decode c_L_link 13 = .ok (.invokevirtual 17, 3) := by decide +kernel
theorem d_L_link_16 : decode c_L_link 16 = .ok (.i2l, 1) := by decide +kernel
theorem d_L_link_17 : decode c_L_link 17 = .ok (.lastore, 1) := by decide +kernel
theorem d_L_link_18 : decode c_L_link 18 = .ok (.goto 11, 3) := by decide +kernel
theorem d_L_link_21 : decode c_L_link 21 = .ok (.astore 8, 2) := by decide +kernel
theorem d_L_link_23 : decode c_L_link 23 = .ok (.iconst 1, 1) := by decide +kernel
theorem d_L_link_24 : decode c_L_link 24 = .ok (.ireturn, 1) := by decide +kernel
theorem d_L_link_25 : decode c_L_link 25 = .ok (.astore 8, 2) := by decide +kernel
theorem d_L_link_27 : decode c_L_link 27 = .ok (.iconst 2, 1) := by decide +kernel
theorem d_L_link_28 : decode c_L_link 28 = .ok (.ireturn, 1) := by decide +kernel
theorem d_L_link_29 : decode c_L_link 29 = .ok (.iconst 0, 1) := by decide +kernel
theorem d_L_link_30 : decode c_L_link 30 = .ok (.ireturn, 1) := by decide +kernel
theorem d_L_up_0 : decode c_L_up 0 = .ok (.aload_n 0, 1) := by decide +kernel
theorem d_L_up_1 : decode c_L_up 1 = .ok (.iload_n 1, 1) := by decide +kernel
theorem d_L_up_2 : decode c_L_up 2 = .ok (.iload_n 2, 1) := by decide +kernel
theorem d_L_up_3 : decode c_L_up 3 = .ok (.invokevirtual 21, 3) := by decide +kernel
theorem d_L_up_6 : decode c_L_up 6 = .ok (.goto 6, 3) := by decide +kernel
theorem d_L_up_9 : decode c_L_up 9 = .ok (.astore_n 3, 1) := by decide +kernel
theorem d_L_up_10 : decode c_L_up 10 = .ok (.iconst 1, 1) := by decide +kernel
theorem d_L_up_11 : decode c_L_up 11 = .ok (.ireturn, 1) := by decide +kernel
theorem d_L_up_12 : decode c_L_up 12 = .ok (.iconst 0, 1) := by decide +kernel
theorem d_L_up_13 : decode c_L_up 13 = .ok (.ireturn, 1) := by decide +kernel
theorem d_L_priority_0 : decode c_L_priority 0 = .ok (.aload_n 0, 1) := by decide +kernel
theorem d_L_priority_1 : decode c_L_priority 1 = .ok (.iload_n 1, 1) := by decide +kernel
theorem d_L_priority_2 : decode c_L_priority 2 = .ok (.iload_n 2, 1) := by decide +kernel
theorem d_L_priority_3 : decode c_L_priority 3 = .ok (.invokevirtual 25, 3) := by decide +kernel
theorem d_L_priority_6 : decode c_L_priority 6 = .ok (.goto 6, 3) := by decide +kernel
theorem d_L_priority_9 : decode c_L_priority 9 = .ok (.astore_n 3, 1) := by decide +kernel
theorem d_L_priority_10 : decode c_L_priority 10 = .ok (.iconst 1, 1) := by decide +kernel
theorem d_L_priority_11 : decode c_L_priority 11 = .ok (.ireturn, 1) := by decide +kernel
theorem d_L_priority_12 : decode c_L_priority 12 = .ok (.iconst 0, 1) := by decide +kernel
theorem d_L_priority_13 : decode c_L_priority 13 = .ok (.ireturn, 1) := by decide +kernel
theorem d_L_round_0 : decode c_L_round 0 = .ok (.aload_n 2, 1) := by decide +kernel
theorem d_L_round_1 : decode c_L_round 1 = .ok (.iconst 0, 1) := by decide +kernel
theorem d_L_round_2 : decode c_L_round 2 = .ok (.aload_n 0, 1) := by decide +kernel
theorem d_L_round_3 : decode c_L_round 3 = .ok (.iload_n 1, 1) := by decide +kernel
theorem d_L_round_4 : decode c_L_round 4 = .ok (.invokevirtual 29, 3) := by decide +kernel
theorem d_L_round_7 : decode c_L_round 7 = .ok (.i2l, 1) := by decide +kernel
theorem d_L_round_8 : decode c_L_round 8 = .ok (.lastore, 1) := by decide +kernel
theorem d_L_round_9 : decode c_L_round 9 = .ok (.goto 6, 3) := by decide +kernel
theorem d_L_round_12 : decode c_L_round 12 = .ok (.astore_n 3, 1) := by decide +kernel
theorem d_L_round_13 : decode c_L_round 13 = .ok (.iconst 1, 1) := by decide +kernel
theorem d_L_round_14 : decode c_L_round 14 = .ok (.ireturn, 1) := by decide +kernel
theorem d_L_round_15 : decode c_L_round 15 = .ok (.iconst 0, 1) := by decide +kernel
theorem d_L_round_16 : decode c_L_round 16 = .ok (.ireturn, 1) := by decide +kernel
theorem d_L_state_0 : decode c_L_state 0 = .ok (.aload_n 3, 1) := by decide +kernel
theorem d_L_state_1 : decode c_L_state 1 = .ok (.iconst 0, 1) := by decide +kernel
theorem d_L_state_2 : decode c_L_state 2 = .ok (.aload_n 0, 1) := by decide +kernel
theorem d_L_state_3 : decode c_L_state 3 = .ok (.iload_n 1, 1) := by decide +kernel
theorem d_L_state_4 : decode c_L_state 4 = .ok (.iload_n 2, 1) := by decide +kernel
theorem d_L_state_5 : decode c_L_state 5 = .ok (.invokevirtual 33, 3) := by decide +kernel
theorem d_L_state_8 : decode c_L_state 8 = .ok (.i2l, 1) := by decide +kernel
theorem d_L_state_9 : decode c_L_state 9 = .ok (.lastore, 1) := by decide +kernel
theorem d_L_state_10 : decode c_L_state 10 = .ok (.goto 7, 3) := by decide +kernel
theorem d_L_state_13 : decode c_L_state 13 = .ok (.astore 4, 2) := by decide +kernel
theorem d_L_state_15 : decode c_L_state 15 = .ok (.iconst 1, 1) := by decide +kernel
theorem d_L_state_16 : decode c_L_state 16 = .ok (.ireturn, 1) := by decide +kernel
theorem d_L_state_17 : decode c_L_state 17 = .ok (.iconst 0, 1) := by decide +kernel
theorem d_L_state_18 : decode c_L_state 18 = .ok (.ireturn, 1) := by decide +kernel
theorem d_L_root_0 : decode c_L_root 0 = .ok (.aload_n 2, 1) := by decide +kernel
theorem d_L_root_1 : decode c_L_root 1 = .ok (.iconst 0, 1) := by decide +kernel
theorem d_L_root_2 : decode c_L_root 2 = .ok (.aload_n 0, 1) := by decide +kernel
theorem d_L_root_3 : decode c_L_root 3 = .ok (.iload_n 1, 1) := by decide +kernel
theorem d_L_root_4 : decode c_L_root 4 = .ok (.invokevirtual 37, 3) := by decide +kernel
theorem d_L_root_7 : decode c_L_root 7 = .ok (.i2l, 1) := by decide +kernel
theorem d_L_root_8 : decode c_L_root 8 = .ok (.lastore, 1) := by decide +kernel
theorem d_L_root_9 : decode c_L_root 9 = .ok (.goto 6, 3) := by decide +kernel
theorem d_L_root_12 : decode c_L_root 12 = .ok (.astore_n 3, 1) := by decide +kernel
theorem d_L_root_13 : decode c_L_root 13 = .ok (.iconst 1, 1) := by decide +kernel
theorem d_L_root_14 : decode c_L_root 14 = .ok (.ireturn, 1) := by decide +kernel
theorem d_L_root_15 : decode c_L_root 15 = .ok (.iconst 0, 1) := by decide +kernel
theorem d_L_root_16 : decode c_L_root 16 = .ok (.ireturn, 1) := by decide +kernel
theorem d_L_steps_0 : decode c_L_steps 0 = .ok (.aload_n 2, 1) := by decide +kernel
theorem d_L_steps_1 : decode c_L_steps 1 = .ok (.iconst 0, 1) := by decide +kernel
theorem d_L_steps_2 : decode c_L_steps 2 = .ok (.aload_n 0, 1) := by decide +kernel
theorem d_L_steps_3 : decode c_L_steps 3 = .ok (.iload_n 1, 1) := by decide +kernel
theorem d_L_steps_4 : decode c_L_steps 4 = .ok (.invokevirtual 40, 3) := by decide +kernel
theorem d_L_steps_7 : decode c_L_steps 7 = .ok (.i2l, 1) := by decide +kernel
theorem d_L_steps_8 : decode c_L_steps 8 = .ok (.lastore, 1) := by decide +kernel
theorem d_L_steps_9 : decode c_L_steps 9 = .ok (.goto 6, 3) := by decide +kernel
theorem d_L_steps_12 : decode c_L_steps 12 = .ok (.astore_n 3, 1) := by decide +kernel
theorem d_L_steps_13 : decode c_L_steps 13 = .ok (.iconst 1, 1) := by decide +kernel
theorem d_L_steps_14 : decode c_L_steps 14 = .ok (.ireturn, 1) := by decide +kernel
theorem d_L_steps_15 : decode c_L_steps 15 = .ok (.iconst 0, 1) := by decide +kernel
theorem d_L_steps_16 : decode c_L_steps 16 = .ok (.ireturn, 1) := by decide +kernel
theorem d_L_kept_0 : decode c_L_kept 0 = .ok (.aload_n 3, 1) := by decide +kernel
theorem d_L_kept_1 : decode c_L_kept 1 = .ok (.iconst 0, 1) := by decide +kernel
theorem d_L_kept_2 : decode c_L_kept 2 = .ok (.aload_n 0, 1) := by decide +kernel
theorem d_L_kept_3 : decode c_L_kept 3 = .ok (.iload_n 1, 1) := by decide +kernel
theorem d_L_kept_4 : decode c_L_kept 4 = .ok (.iload_n 2, 1) := by decide +kernel
theorem d_L_kept_5 : decode c_L_kept 5 = .ok (.invokevirtual 43, 3) := by decide +kernel
theorem d_L_kept_8 : decode c_L_kept 8 = .ok (.i2l, 1) := by decide +kernel
theorem d_L_kept_9 : decode c_L_kept 9 = .ok (.lastore, 1) := by decide +kernel
theorem d_L_kept_10 : decode c_L_kept 10 = .ok (.goto 7, 3) := by decide +kernel
theorem d_L_kept_13 : decode c_L_kept 13 = .ok (.astore 4, 2) := by decide +kernel
theorem d_L_kept_15 : decode c_L_kept 15 = .ok (.iconst 1, 1) := by decide +kernel
theorem d_L_kept_16 : decode c_L_kept 16 = .ok (.ireturn, 1) := by decide +kernel
theorem d_L_kept_17 : decode c_L_kept 17 = .ok (.iconst 0, 1) := by decide +kernel
theorem d_L_kept_18 : decode c_L_kept 18 = .ok (.ireturn, 1) := by decide +kernel
theorem d_L_exchange_0 : decode c_L_exchange 0 = .ok (.aload 6, 2) := by decide +kernel
theorem d_L_exchange_2 : decode c_L_exchange 2 = .ok (.iconst 0, 1) := by decide +kernel
theorem d_L_exchange_3 : decode c_L_exchange 3 = .ok (.aload_n 0, 1) := by decide +kernel
theorem d_L_exchange_4 : decode c_L_exchange 4 = .ok (.iload_n 1, 1) := by decide +kernel
theorem d_L_exchange_5 : decode c_L_exchange 5 = .ok (.lload_n 2, 1) := by decide +kernel
theorem d_L_exchange_6 : decode c_L_exchange 6 = .ok (.iload 4, 2) := by decide +kernel
theorem d_L_exchange_8 : decode c_L_exchange 8 = .ok (.iload 5, 2) := by decide +kernel
theorem d_L_exchange_10 : decode c_L_exchange 10 = .ok (.invokevirtual 46, 3) := by decide +kernel
theorem d_L_exchange_13 : decode c_L_exchange 13 = .ok (.lastore, 1) := by decide +kernel
theorem d_L_exchange_14 : decode c_L_exchange 14 = .ok (.goto 15, 3) := by decide +kernel
theorem d_L_exchange_17 : decode c_L_exchange 17 = .ok (.astore 7, 2) := by decide +kernel
theorem d_L_exchange_19 : decode c_L_exchange 19 = .ok (.iconst 1, 1) := by decide +kernel
theorem d_L_exchange_20 : decode c_L_exchange 20 = .ok (.ireturn, 1) := by decide +kernel
theorem d_L_exchange_21 : decode c_L_exchange 21 = .ok (.astore 7, 2) := by decide +kernel
theorem d_L_exchange_23 : decode c_L_exchange 23 = .ok (.iconst 2, 1) := by decide +kernel
theorem d_L_exchange_24 : decode c_L_exchange 24 = .ok (.ireturn, 1) := by decide +kernel
theorem d_L_exchange_25 : decode c_L_exchange 25 = .ok (.astore 7, 2) := by decide +kernel
theorem d_L_exchange_27 : decode c_L_exchange 27 = .ok (.iconst 3, 1) := by decide +kernel
theorem d_L_exchange_28 : decode c_L_exchange 28 = .ok (.ireturn, 1) := by decide +kernel
theorem d_L_exchange_29 : decode c_L_exchange 29 = .ok (.iconst 0, 1) := by decide +kernel
theorem d_L_exchange_30 : decode c_L_exchange 30 = .ok (.ireturn, 1) := by decide +kernel
theorem d_L_delay_0 : decode c_L_delay 0 = .ok (.aload_n 2, 1) := by decide +kernel
theorem d_L_delay_1 : decode c_L_delay 1 = .ok (.iconst 0, 1) := by decide +kernel
theorem d_L_delay_2 : decode c_L_delay 2 = .ok (.aload_n 0, 1) := by decide +kernel
theorem d_L_delay_3 : decode c_L_delay 3 = .ok (.iload_n 1, 1) := by decide +kernel
theorem d_L_delay_4 : decode c_L_delay 4 = .ok (.invokevirtual 52, 3) := by decide +kernel
theorem d_L_delay_7 : decode c_L_delay 7 = .ok (.lastore, 1) := by decide +kernel
theorem d_L_delay_8 : decode c_L_delay 8 = .ok (.goto 6, 3) := by decide +kernel
theorem d_L_delay_11 : decode c_L_delay 11 = .ok (.astore_n 3, 1) := by decide +kernel
theorem d_L_delay_12 : decode c_L_delay 12 = .ok (.iconst 1, 1) := by decide +kernel
theorem d_L_delay_13 : decode c_L_delay 13 = .ok (.ireturn, 1) := by decide +kernel
theorem d_L_delay_14 : decode c_L_delay 14 = .ok (.iconst 0, 1) := by decide +kernel
theorem d_L_delay_15 : decode c_L_delay 15 = .ok (.ireturn, 1) := by decide +kernel
theorem d_L_offset_0 : decode c_L_offset 0 = .ok (.aload_n 2, 1) := by decide +kernel
theorem d_L_offset_1 : decode c_L_offset 1 = .ok (.iconst 0, 1) := by decide +kernel
theorem d_L_offset_2 : decode c_L_offset 2 = .ok (.aload_n 0, 1) := by decide +kernel
theorem d_L_offset_3 : decode c_L_offset 3 = .ok (.iload_n 1, 1) := by decide +kernel
theorem d_L_offset_4 : decode c_L_offset 4 = .ok (.invokevirtual 56, 3) := by decide +kernel
theorem d_L_offset_7 : decode c_L_offset 7 = .ok (.lastore, 1) := by decide +kernel
theorem d_L_offset_8 : decode c_L_offset 8 = .ok (.goto 6, 3) := by decide +kernel
theorem d_L_offset_11 : decode c_L_offset 11 = .ok (.astore_n 3, 1) := by decide +kernel
theorem d_L_offset_12 : decode c_L_offset 12 = .ok (.iconst 1, 1) := by decide +kernel
theorem d_L_offset_13 : decode c_L_offset 13 = .ok (.ireturn, 1) := by decide +kernel
theorem d_L_offset_14 : decode c_L_offset 14 = .ok (.iconst 0, 1) := by decide +kernel
theorem d_L_offset_15 : decode c_L_offset 15 = .ok (.ireturn, 1) := by decide +kernel
