theorem dX12_address_0 : decode cX12_address 0 = .ok (.aload_n 0, 1) := by decide +kernel
theorem dX12_address_1 : decode cX12_address 1 = .ok (.iload_n 1, 1) := by decide +kernel
theorem dX12_address_2 : decode cX12_address 2 = .ok (.invokevirtual 176, 3) := by decide +kernel
theorem dX12_address_5 : decode cX12_address 5 = .ok (.istore 4, 2) := by decide +kernel
theorem dX12_address_7 : decode cX12_address 7 = .ok (.aload_n 0, 1) := by decide +kernel
theorem dX12_address_8 : decode cX12_address 8 = .ok (.iload 4, 2) := by decide +kernel
theorem dX12_address_10 : decode cX12_address 10 = .ok (.ifCond .ne 7, 3) := by decide +kernel
theorem dX12_address_13 : decode cX12_address 13 = .ok (.iconst 1, 1) := by decide +kernel
theorem dX12_address_14 : decode cX12_address 14 = .ok (.goto 34, 3) := by decide +kernel
theorem dX12_address_48 : decode cX12_address 48 = .ok (.invokevirtual 140, 3) := by decide +kernel
theorem dX12_address_51 : decode cX12_address 51 = .ok (.ifCond .ne 5, 3) := by decide +kernel
theorem dX12_address_54 : decode cX12_address 54 = .ok (.iconst 0, 1) := by decide +kernel
theorem dX12_address_55 : decode cX12_address 55 = .ok (.ireturn, 1) := by decide +kernel
theorem dX12_cable_0 : decode cX12_cable 0 = .ok (.aload_n 0, 1) := by decide +kernel
theorem dX12_cable_1 : decode cX12_cable 1 = .ok (.iload_n 1, 1) := by decide +kernel
theorem dX12_cable_2 : decode cX12_cable 2 = .ok (.invokevirtual 176, 3) := by decide +kernel
theorem dX12_cable_5 : decode cX12_cable 5 = .ok (.ifCond .eq 15, 3) := by decide +kernel
theorem dX12_cable_20 : decode cX12_cable 20 = .ok (.iconst 0, 1) := by decide +kernel
theorem dX12_cable_21 : decode cX12_cable 21 = .ok (.istore_n 3, 1) := by decide +kernel
theorem dX12_cable_22 : decode cX12_cable 22 = .ok (.aload_n 0, 1) := by decide +kernel
theorem dX12_cable_23 : decode cX12_cable 23 = .ok (.iload_n 3, 1) := by decide +kernel
theorem dX12_cable_24 : decode cX12_cable 24 = .ok (.ifCond .ne 7, 3) := by decide +kernel
theorem dX12_cable_27 : decode cX12_cable 27 = .ok (.iconst 1, 1) := by decide +kernel
theorem dX12_cable_28 : decode cX12_cable 28 = .ok (.goto 50, 3) := by decide +kernel
theorem dX12_cable_78 : decode cX12_cable 78 = .ok (.invokevirtual 140, 3) := by decide +kernel
theorem dX12_cable_81 : decode cX12_cable 81 = .ok (.ifCond .ne 5, 3) := by decide +kernel
theorem dX12_cable_84 : decode cX12_cable 84 = .ok (.iconst 0, 1) := by decide +kernel
theorem dX12_cable_85 : decode cX12_cable 85 = .ok (.ireturn, 1) := by decide +kernel
theorem dX12_can_0 : decode cX12_can 0 = .ok (.aload_n 0, 1) := by decide +kernel
theorem dX12_can_1 : decode cX12_can 1 = .ok (.iload_n 1, 1) := by decide +kernel
theorem dX12_can_2 : decode cX12_can 2 = .ok (.putfield 125, 3) := by decide +kernel
theorem dX12_can_5 : decode cX12_can 5 = .ok (.iload_n 1, 1) := by decide +kernel
theorem dX12_can_6 : decode cX12_can 6 = .ok (.ifCond .ne 7, 3) := by decide +kernel
theorem dX12_can_9 : decode cX12_can 9 = .ok (.iconst 1, 1) := by decide +kernel
theorem dX12_can_10 : decode cX12_can 10 = .ok (.goto 4, 3) := by decide +kernel
theorem dX12_can_13 : decode cX12_can 13 = .ok (.iconst 0, 1) := by decide +kernel
theorem dX12_can_14 : decode cX12_can 14 = .ok (.ireturn, 1) := by decide +kernel
theorem dX12_fate_0 : decode cX12_fate 0 = .ok (.aload_n 0, 1) := by decide +kernel
theorem dX12_fate_1 : decode cX12_fate 1 = .ok (.iload_n 1, 1) := by decide +kernel
theorem dX12_fate_2 : decode cX12_fate 2 = .ok (.invokevirtual 299, 3) := by decide +kernel
theorem dX12_fate_5 : decode cX12_fate 5 = .ok (.ifCond .eq 12, 3) := by decide +kernel
theorem dX12_fate_17 : decode cX12_fate 17 = .ok (.iconst 0, 1) := by decide +kernel
theorem dX12_fate_18 : decode cX12_fate 18 = .ok (.ireturn, 1) := by decide +kernel
theorem dX12_frames_0 : decode cX12_frames 0 = .ok (.aload_n 0, 1) := by decide +kernel
theorem dX12_frames_1 : decode cX12_frames 1 = .ok (.iconst 0, 1) := by decide +kernel
theorem dX12_frames_2 : decode cX12_frames 2 = .ok (.putfield 125, 3) := by decide +kernel
theorem dX12_frames_5 : decode cX12_frames 5 = .ok (.aload_n 0, 1) := by decide +kernel
theorem dX12_frames_6 : decode cX12_frames 6 = .ok (.getfield 243, 3) := by decide +kernel
theorem dX12_frames_9 : decode cX12_frames 9 = .ok (.ireturn, 1) := by decide +kernel
theorem dX12_gateway_0 : decode cX12_gateway 0 = .ok (.aload_n 0, 1) := by decide +kernel
theorem dX12_gateway_1 : decode cX12_gateway 1 = .ok (.aload_n 0, 1) := by decide +kernel
theorem dX12_gateway_2 : decode cX12_gateway 2 = .ok (.iload_n 1, 1) := by decide +kernel
theorem dX12_gateway_3 : decode cX12_gateway 3 = .ok (.invokevirtual 136, 3) := by decide +kernel
theorem dX12_gateway_6 : decode cX12_gateway 6 = .ok (.ifCond .ne 7, 3) := by decide +kernel
theorem dX12_gateway_9 : decode cX12_gateway 9 = .ok (.iconst 1, 1) := by decide +kernel
theorem dX12_gateway_10 : decode cX12_gateway 10 = .ok (.goto 29, 3) := by decide +kernel
theorem dX12_gateway_39 : decode cX12_gateway 39 = .ok (.invokevirtual 140, 3) := by decide +kernel
theorem dX12_gateway_42 : decode cX12_gateway 42 = .ok (.ifCond .ne 5, 3) := by decide +kernel
theorem dX12_gateway_45 : decode cX12_gateway 45 = .ok (.iconst 0, 1) := by decide +kernel
theorem dX12_gateway_46 : decode cX12_gateway 46 = .ok (.ireturn, 1) := by decide +kernel
theorem dX12_isBlocked_0 : decode cX12_isBlocked 0 = .ok (.aload_n 0, 1) := by decide +kernel
theorem dX12_isBlocked_1 : decode cX12_isBlocked 1 = .ok (.aload_n 0, 1) := by decide +kernel
theorem dX12_isBlocked_2 : decode cX12_isBlocked 2 = .ok (.iload_n 1, 1) := by decide +kernel
theorem dX12_isBlocked_3 : decode cX12_isBlocked 3 = .ok (.invokevirtual 183, 3) := by decide +kernel
theorem dX12_isBlocked_6 : decode cX12_isBlocked 6 = .ok (.ifCond .eq 7, 3) := by decide +kernel
theorem dX12_isBlocked_13 : decode cX12_isBlocked 13 = .ok (.iconst 1, 1) := by decide +kernel
theorem dX12_isBlocked_14 : decode cX12_isBlocked 14 = .ok (.invokevirtual 140, 3) := by decide +kernel
theorem dX12_isBlocked_17 : decode cX12_isBlocked 17 = .ok (.ifCond .ne 5, 3) := by decide +kernel
theorem dX12_isBlocked_20 : decode cX12_isBlocked 20 = .ok (.iconst 0, 1) := by decide +kernel
theorem dX12_isBlocked_21 : decode cX12_isBlocked 21 = .ok (.ireturn, 1) := by decide +kernel
theorem dX12_isBox_0 : decode cX12_isBox 0 = .ok (.iload_n 1, 1) := by decide +kernel
theorem dX12_isBox_1 : decode cX12_isBox 1 = .ok (.iconst 0, 1) := by decide +kernel
theorem dX12_isBox_2 : decode cX12_isBox 2 = .ok (.aload_n 0, 1) := by decide +kernel
theorem dX12_isBox_3 : decode cX12_isBox 3 = .ok (.getfield 129, 3) := by decide +kernel
theorem dX12_isBox_6 : decode cX12_isBox 6 = .ok (.iconst 1, 1) := by decide +kernel
theorem dX12_isBox_7 : decode cX12_isBox 7 = .ok (.isub, 1) := by decide +kernel
theorem dX12_isBox_8 : decode cX12_isBox 8 = .ok (.invokestatic 132, 3) := by decide +kernel
theorem dX12_isBox_11 : decode cX12_isBox 11 = .ok (.ireturn, 1) := by decide +kernel
theorem dX12_isCable_0 : decode cX12_isCable 0 = .ok (.iload_n 1, 1) := by decide +kernel
theorem dX12_isCable_1 : decode cX12_isCable 1 = .ok (.iconst 0, 1) := by decide +kernel
theorem dX12_isCable_2 : decode cX12_isCable 2 = .ok (.aload_n 0, 1) := by decide +kernel
theorem dX12_isCable_3 : decode cX12_isCable 3 = .ok (.getfield 147, 3) := by decide +kernel
theorem dX12_isCable_6 : decode cX12_isCable 6 = .ok (.iconst 1, 1) := by decide +kernel
theorem dX12_isCable_7 : decode cX12_isCable 7 = .ok (.isub, 1) := by decide +kernel
theorem dX12_isCable_8 : decode cX12_isCable 8 = .ok (.invokestatic 132, 3) := by decide +kernel
theorem dX12_isCable_11 : decode cX12_isCable 11 = .ok (.ireturn, 1) := by decide +kernel
theorem dX12_isIn_0 : decode cX12_isIn 0 = .ok (.iload_n 0, 1) := by decide +kernel
theorem dX12_isIn_1 : decode cX12_isIn 1 = .ok (.iload_n 1, 1) := by decide +kernel
theorem dX12_isIn_2 : decode cX12_isIn 2 = .ok (.if_icmp .lt 12, 3) := by decide +kernel
theorem dX12_isIn_5 : decode cX12_isIn 5 = .ok (.iload_n 0, 1) := by decide +kernel
theorem dX12_isIn_6 : decode cX12_isIn 6 = .ok (.iload_n 2, 1) := by decide +kernel
theorem dX12_isIn_7 : decode cX12_isIn 7 = .ok (.if_icmp .gt 7, 3) := by decide +kernel
theorem dX12_isIn_10 : decode cX12_isIn 10 = .ok (.iconst 1, 1) := by decide +kernel
theorem dX12_isIn_11 : decode cX12_isIn 11 = .ok (.goto 4, 3) := by decide +kernel
theorem dX12_isIn_14 : decode cX12_isIn 14 = .ok (.iconst 0, 1) := by decide +kernel
theorem dX12_isIn_15 : decode cX12_isIn 15 = .ok (.ireturn, 1) := by decide +kernel
theorem dX12_isKind_0 : decode cX12_isKind 0 = .ok (.aload_n 0, 1) := by decide +kernel
theorem dX12_isKind_1 : decode cX12_isKind 1 = .ok (.iload_n 1, 1) := by decide +kernel
theorem dX12_isKind_2 : decode cX12_isKind 2 = .ok (.invokevirtual 136, 3) := by decide +kernel
theorem dX12_isKind_5 : decode cX12_isKind 5 = .ok (.ifCond .eq 17, 3) := by decide +kernel
theorem dX12_isKind_22 : decode cX12_isKind 22 = .ok (.iconst 0, 1) := by decide +kernel
theorem dX12_isKind_23 : decode cX12_isKind 23 = .ok (.ireturn, 1) := by decide +kernel
theorem dX12_isPacket_0 : decode cX12_isPacket 0 = .ok (.aload_n 0, 1) := by decide +kernel
theorem dX12_isPacket_1 : decode cX12_isPacket 1 = .ok (.iload_n 1, 1) := by decide +kernel
theorem dX12_isPacket_2 : decode cX12_isPacket 2 = .ok (.iconst 0, 1) := by decide +kernel
theorem dX12_isPacket_3 : decode cX12_isPacket 3 = .ok (.aload_n 0, 1) := by decide +kernel
theorem dX12_isPacket_4 : decode cX12_isPacket 4 = .ok (.getfield 246, 3) := by decide +kernel
theorem dX12_isPacket_7 : decode cX12_isPacket 7 = .ok (.iconst 1, 1) := by decide +kernel
theorem dX12_isPacket_8 : decode cX12_isPacket 8 = .ok (.isub, 1) := by decide +kernel
theorem dX12_isPacket_9 : decode cX12_isPacket 9 = .ok (.invokestatic 132, 3) := by decide +kernel
theorem dX12_isPacket_12 : decode cX12_isPacket 12 = .ok (.ifCond .eq 7, 3) := by decide +kernel
theorem dX12_isPacket_19 : decode cX12_isPacket 19 = .ok (.iconst 1, 1) := by decide +kernel
theorem dX12_isPacket_20 : decode cX12_isPacket 20 = .ok (.invokevirtual 140, 3) := by decide +kernel
theorem dX12_isPacket_23 : decode cX12_isPacket 23 = .ok (.ireturn, 1) := by decide +kernel
theorem dX12_isPort_0 : decode cX12_isPort 0 = .ok (.iload_n 1, 1) := by decide +kernel
theorem dX12_isPort_1 : decode cX12_isPort 1 = .ok (.ifCond .lt 55, 3) := by decide +kernel
theorem dX12_isPort_4 : decode cX12_isPort 4 = .ok (.aload_n 0, 1) := by decide +kernel
theorem dX12_isPort_5 : decode cX12_isPort 5 = .ok (.iload_n 1, 1) := by decide +kernel
theorem dX12_isPort_6 : decode cX12_isPort 6 = .ok (.iconst 4, 1) := by decide +kernel
theorem dX12_isPort_7 : decode cX12_isPort 7 = .ok (.idiv, 1) := by decide +kernel
theorem dX12_isPort_8 : decode cX12_isPort 8 = .ok (.invokevirtual 136, 3) := by decide +kernel
theorem dX12_isPort_11 : decode cX12_isPort 11 = .ok (.ifCond .eq 45, 3) := by decide +kernel
theorem dX12_isPort_56 : decode cX12_isPort 56 = .ok (.iconst 0, 1) := by decide +kernel
theorem dX12_isPort_57 : decode cX12_isPort 57 = .ok (.ireturn, 1) := by decide +kernel
theorem dX12_isSent_0 : decode cX12_isSent 0 = .ok (.aload_n 0, 1) := by decide +kernel
theorem dX12_isSent_1 : decode cX12_isSent 1 = .ok (.aload_n 0, 1) := by decide +kernel
theorem dX12_isSent_2 : decode cX12_isSent 2 = .ok (.iload_n 1, 1) := by decide +kernel
theorem dX12_isSent_3 : decode cX12_isSent 3 = .ok (.invokevirtual 136, 3) := by decide +kernel
theorem dX12_isSent_6 : decode cX12_isSent 6 = .ok (.ifCond .ne 7, 3) := by decide +kernel
theorem dX12_isSent_9 : decode cX12_isSent 9 = .ok (.iconst 1, 1) := by decide +kernel
theorem dX12_isSent_10 : decode cX12_isSent 10 = .ok (.goto 33, 3) := by decide +kernel
theorem dX12_isSent_43 : decode cX12_isSent 43 = .ok (.invokevirtual 140, 3) := by decide +kernel
theorem dX12_isSent_46 : decode cX12_isSent 46 = .ok (.ireturn, 1) := by decide +kernel
theorem dX12_learnt_0 : decode cX12_learnt 0 = .ok (.aload_n 0, 1) := by decide +kernel
theorem dX12_learnt_1 : decode cX12_learnt 1 = .ok (.aload_n 0, 1) := by decide +kernel
theorem dX12_learnt_2 : decode cX12_learnt 2 = .ok (.iload_n 1, 1) := by decide +kernel
theorem dX12_learnt_3 : decode cX12_learnt 3 = .ok (.invokevirtual 136, 3) := by decide +kernel
theorem dX12_learnt_6 : decode cX12_learnt 6 = .ok (.ifCond .ne 7, 3) := by decide +kernel
theorem dX12_learnt_9 : decode cX12_learnt 9 = .ok (.iconst 1, 1) := by decide +kernel
theorem dX12_learnt_10 : decode cX12_learnt 10 = .ok (.goto 34, 3) := by decide +kernel
theorem dX12_learnt_44 : decode cX12_learnt 44 = .ok (.invokevirtual 140, 3) := by decide +kernel
theorem dX12_learnt_47 : decode cX12_learnt 47 = .ok (.ifCond .ne 5, 3) := by decide +kernel
theorem dX12_learnt_50 : decode cX12_learnt 50 = .ok (.iconst 0, 1) := by decide +kernel
theorem dX12_learnt_51 : decode cX12_learnt 51 = .ok (.ireturn, 1) := by decide +kernel
theorem dX12_net_0 : decode cX12_net 0 = .ok (.aload_n 0, 1) := by decide +kernel
theorem dX12_net_1 : decode cX12_net 1 = .ok (.iload_n 1, 1) := by decide +kernel
theorem dX12_net_2 : decode cX12_net 2 = .ok (.invokevirtual 176, 3) := by decide +kernel
theorem dX12_net_5 : decode cX12_net 5 = .ok (.istore_n 3, 1) := by decide +kernel
theorem dX12_net_6 : decode cX12_net 6 = .ok (.aload_n 0, 1) := by decide +kernel
theorem dX12_net_7 : decode cX12_net 7 = .ok (.iload_n 3, 1) := by decide +kernel
theorem dX12_net_8 : decode cX12_net 8 = .ok (.ifCond .ne 7, 3) := by decide +kernel
theorem dX12_net_11 : decode cX12_net 11 = .ok (.iconst 1, 1) := by decide +kernel
theorem dX12_net_12 : decode cX12_net 12 = .ok (.goto 26, 3) := by decide +kernel
theorem dX12_net_38 : decode cX12_net 38 = .ok (.invokevirtual 140, 3) := by decide +kernel
theorem dX12_net_41 : decode cX12_net 41 = .ok (.ifCond .ne 5, 3) := by decide +kernel
theorem dX12_net_44 : decode cX12_net 44 = .ok (.iconst 0, 1) := by decide +kernel
theorem dX12_net_45 : decode cX12_net 45 = .ok (.ireturn, 1) := by decide +kernel
theorem dX12_noted_0 : decode cX12_noted 0 = .ok (.aload_n 0, 1) := by decide +kernel
theorem dX12_noted_1 : decode cX12_noted 1 = .ok (.iload_n 1, 1) := by decide +kernel
theorem dX12_noted_2 : decode cX12_noted 2 = .ok (.invokevirtual 136, 3) := by decide +kernel
theorem dX12_noted_5 : decode cX12_noted 5 = .ok (.ifCond .eq 15, 3) := by decide +kernel
theorem dX12_noted_20 : decode cX12_noted 20 = .ok (.iconst 0, 1) := by decide +kernel
theorem dX12_noted_21 : decode cX12_noted 21 = .ok (.istore_n 3, 1) := by decide +kernel
theorem dX12_noted_22 : decode cX12_noted 22 = .ok (.aload_n 0, 1) := by decide +kernel
theorem dX12_noted_23 : decode cX12_noted 23 = .ok (.iload_n 3, 1) := by decide +kernel
theorem dX12_noted_24 : decode cX12_noted 24 = .ok (.ifCond .ne 7, 3) := by decide +kernel
theorem dX12_noted_27 : decode cX12_noted 27 = .ok (.iconst 1, 1) := by decide +kernel
theorem dX12_noted_28 : decode cX12_noted 28 = .ok (.goto 26, 3) := by decide +kernel
theorem dX12_noted_54 : decode cX12_noted 54 = .ok (.invokevirtual 140, 3) := by decide +kernel
theorem dX12_noted_57 : decode cX12_noted 57 = .ok (.ifCond .ne 5, 3) := by decide +kernel
theorem dX12_noted_60 : decode cX12_noted 60 = .ok (.iconst 0, 1) := by decide +kernel
theorem dX12_noted_61 : decode cX12_noted 61 = .ok (.ireturn, 1) := by decide +kernel
theorem dX12_pool_0 : decode cX12_pool 0 = .ok (.aload_n 0, 1) := by decide +kernel
theorem dX12_pool_1 : decode cX12_pool 1 = .ok (.iload_n 1, 1) := by decide +kernel
theorem dX12_pool_2 : decode cX12_pool 2 = .ok (.invokevirtual 176, 3) := by decide +kernel
theorem dX12_pool_5 : decode cX12_pool 5 = .ok (.istore 4, 2) := by decide +kernel
theorem dX12_pool_7 : decode cX12_pool 7 = .ok (.iload 4, 2) := by decide +kernel
theorem dX12_pool_9 : decode cX12_pool 9 = .ok (.ifCond .eq 40, 3) := by decide +kernel
theorem dX12_pool_49 : decode cX12_pool 49 = .ok (.iconst 0, 1) := by decide +kernel
theorem dX12_pool_50 : decode cX12_pool 50 = .ok (.istore 5, 2) := by decide +kernel
theorem dX12_pool_52 : decode cX12_pool 52 = .ok (.aload_n 0, 1) := by decide +kernel
theorem dX12_pool_53 : decode cX12_pool 53 = .ok (.iload 4, 2) := by decide +kernel
theorem dX12_pool_55 : decode cX12_pool 55 = .ok (.ifCond .ne 7, 3) := by decide +kernel
theorem dX12_pool_58 : decode cX12_pool 58 = .ok (.iconst 1, 1) := by decide +kernel
theorem dX12_pool_59 : decode cX12_pool 59 = .ok (.goto 13, 3) := by decide +kernel
theorem dX12_pool_72 : decode cX12_pool 72 = .ok (.invokevirtual 140, 3) := by decide +kernel
theorem dX12_pool_75 : decode cX12_pool 75 = .ok (.ifCond .ne 5, 3) := by decide +kernel
theorem dX12_pool_78 : decode cX12_pool 78 = .ok (.iconst 0, 1) := by decide +kernel
theorem dX12_pool_79 : decode cX12_pool 79 = .ok (.ireturn, 1) := by decide +kernel
theorem dX12_proved_0 : decode cX12_proved 0 = .ok (.aload_n 0, 1) := by decide +kernel
theorem dX12_proved_1 : decode cX12_proved 1 = .ok (.iload_n 1, 1) := by decide +kernel
theorem dX12_proved_2 : decode cX12_proved 2 = .ok (.iload_n 2, 1) := by decide +kernel
theorem dX12_proved_3 : decode cX12_proved 3 = .ok (.iload_n 3, 1) := by decide +kernel
theorem dX12_proved_4 : decode cX12_proved 4 = .ok (.invokevirtual 249, 3) := by decide +kernel
theorem dX12_proved_7 : decode cX12_proved 7 = .ok (.ifCond .ne 5, 3) := by decide +kernel
theorem dX12_proved_10 : decode cX12_proved 10 = .ok (.iconst 0, 1) := by decide +kernel
theorem dX12_proved_11 : decode cX12_proved 11 = .ok (.ireturn, 1) := by decide +kernel
theorem dX12_reach_0 : decode cX12_reach 0 = .ok (.aload_n 0, 1) := by decide +kernel
theorem dX12_reach_1 : decode cX12_reach 1 = .ok (.iload_n 1, 1) := by decide +kernel
theorem dX12_reach_2 : decode cX12_reach 2 = .ok (.iload_n 2, 1) := by decide +kernel
theorem dX12_reach_3 : decode cX12_reach 3 = .ok (.invokevirtual 311, 3) := by decide +kernel
theorem dX12_reach_6 : decode cX12_reach 6 = .ok (.ireturn, 1) := by decide +kernel
theorem dX12_reachAnew_0 : decode cX12_reachAnew 0 = .ok (.aload_n 0, 1) := by decide +kernel
theorem dX12_reachAnew_1 : decode cX12_reachAnew 1 = .ok (.iload_n 1, 1) := by decide +kernel
theorem dX12_reachAnew_2 : decode cX12_reachAnew 2 = .ok (.iload_n 2, 1) := by decide +kernel
theorem dX12_reachAnew_3 : decode cX12_reachAnew 3 = .ok (.invokevirtual 311, 3) := by decide +kernel
theorem dX12_reachAnew_6 : decode cX12_reachAnew 6 = .ok (.ireturn, 1) := by decide +kernel
theorem dX12_reaches_0 : decode cX12_reaches 0 = .ok (.aload_n 0, 1) := by decide +kernel
theorem dX12_reaches_1 : decode cX12_reaches 1 = .ok (.aload_n 0, 1) := by decide +kernel
theorem dX12_reaches_2 : decode cX12_reaches 2 = .ok (.iload_n 1, 1) := by decide +kernel
theorem dX12_reaches_3 : decode cX12_reaches 3 = .ok (.invokevirtual 136, 3) := by decide +kernel
theorem dX12_reaches_6 : decode cX12_reaches 6 = .ok (.ifCond .eq 11, 3) := by decide +kernel
theorem dX12_reaches_17 : decode cX12_reaches 17 = .ok (.iconst 1, 1) := by decide +kernel
theorem dX12_reaches_18 : decode cX12_reaches 18 = .ok (.goto 17, 3) := by decide +kernel
theorem dX12_reaches_35 : decode cX12_reaches 35 = .ok (.invokevirtual 140, 3) := by decide +kernel
theorem dX12_reaches_38 : decode cX12_reaches 38 = .ok (.ifCond .ne 5, 3) := by decide +kernel
theorem dX12_reaches_41 : decode cX12_reaches 41 = .ok (.iconst 0, 1) := by decide +kernel
theorem dX12_reaches_42 : decode cX12_reaches 42 = .ok (.ireturn, 1) := by decide +kernel
theorem dX12_route_0 : decode cX12_route 0 = .ok (.aload_n 0, 1) := by decide +kernel
theorem dX12_route_1 : decode cX12_route 1 = .ok (.iload_n 1, 1) := by decide +kernel
theorem dX12_route_2 : decode cX12_route 2 = .ok (.iconst 2, 1) := by decide +kernel
theorem dX12_route_3 : decode cX12_route 3 = .ok (.invokevirtual 192, 3) := by decide +kernel
theorem dX12_route_6 : decode cX12_route 6 = .ok (.ifCond .eq 32, 3) := by decide +kernel
theorem dX12_route_38 : decode cX12_route 38 = .ok (.iconst 0, 1) := by decide +kernel
theorem dX12_route_39 : decode cX12_route 39 = .ok (.istore 5, 2) := by decide +kernel
theorem dX12_route_41 : decode cX12_route 41 = .ok (.aload_n 0, 1) := by decide +kernel
theorem dX12_route_42 : decode cX12_route 42 = .ok (.aload_n 0, 1) := by decide +kernel
theorem dX12_route_43 : decode cX12_route 43 = .ok (.iload_n 1, 1) := by decide +kernel
theorem dX12_route_44 : decode cX12_route 44 = .ok (.invokevirtual 136, 3) := by decide +kernel
theorem dX12_route_47 : decode cX12_route 47 = .ok (.ifCond .ne 7, 3) := by decide +kernel
theorem dX12_route_50 : decode cX12_route 50 = .ok (.iconst 1, 1) := by decide +kernel
theorem dX12_route_51 : decode cX12_route 51 = .ok (.goto 28, 3) := by decide +kernel
theorem dX12_route_79 : decode cX12_route 79 = .ok (.invokevirtual 140, 3) := by decide +kernel
theorem dX12_route_82 : decode cX12_route 82 = .ok (.ifCond .ne 5, 3) := by decide +kernel
theorem dX12_route_85 : decode cX12_route 85 = .ok (.iconst 0, 1) := by decide +kernel
theorem dX12_route_86 : decode cX12_route 86 = .ok (.ireturn, 1) := by decide +kernel
theorem dX12_rule_0 : decode cX12_rule 0 = .ok (.aload_n 0, 1) := by decide +kernel
theorem dX12_rule_1 : decode cX12_rule 1 = .ok (.iload_n 1, 1) := by decide +kernel
theorem dX12_rule_2 : decode cX12_rule 2 = .ok (.iconst 2, 1) := by decide +kernel
theorem dX12_rule_3 : decode cX12_rule 3 = .ok (.invokevirtual 192, 3) := by decide +kernel
theorem dX12_rule_6 : decode cX12_rule 6 = .ok (.ifCond .eq 53, 3) := by decide +kernel
theorem dX12_rule_59 : decode cX12_rule 59 = .ok (.iconst 0, 1) := by decide +kernel
theorem dX12_rule_60 : decode cX12_rule 60 = .ok (.istore 8, 2) := by decide +kernel
theorem dX12_rule_62 : decode cX12_rule 62 = .ok (.aload_n 0, 1) := by decide +kernel
theorem dX12_rule_63 : decode cX12_rule 63 = .ok (.aload_n 0, 1) := by decide +kernel
theorem dX12_rule_64 : decode cX12_rule 64 = .ok (.iload_n 1, 1) := by decide +kernel
theorem dX12_rule_65 : decode cX12_rule 65 = .ok (.invokevirtual 136, 3) := by decide +kernel
theorem dX12_rule_68 : decode cX12_rule 68 = .ok (.ifCond .ne 7, 3) := by decide +kernel
theorem dX12_rule_71 : decode cX12_rule 71 = .ok (.iconst 1, 1) := by decide +kernel
theorem dX12_rule_72 : decode cX12_rule 72 = .ok (.goto 28, 3) := by decide +kernel
theorem dX12_rule_100 : decode cX12_rule 100 = .ok (.invokevirtual 140, 3) := by decide +kernel
theorem dX12_rule_103 : decode cX12_rule 103 = .ok (.ifCond .ne 5, 3) := by decide +kernel
theorem dX12_rule_106 : decode cX12_rule 106 = .ok (.iconst 0, 1) := by decide +kernel
theorem dX12_rule_107 : decode cX12_rule 107 = .ok (.ireturn, 1) := by decide +kernel
theorem dX12_sees_0 : decode cX12_sees 0 = .ok (.aload_n 0, 1) := by decide +kernel
theorem dX12_sees_1 : decode cX12_sees 1 = .ok (.iload_n 1, 1) := by decide +kernel
theorem dX12_sees_2 : decode cX12_sees 2 = .ok (.invokevirtual 176, 3) := by decide +kernel
theorem dX12_sees_5 : decode cX12_sees 5 = .ok (.ifCond .eq 15, 3) := by decide +kernel
theorem dX12_sees_20 : decode cX12_sees 20 = .ok (.iconst 0, 1) := by decide +kernel
theorem dX12_sees_21 : decode cX12_sees 21 = .ok (.istore_n 3, 1) := by decide +kernel
theorem dX12_sees_22 : decode cX12_sees 22 = .ok (.aload_n 0, 1) := by decide +kernel
theorem dX12_sees_23 : decode cX12_sees 23 = .ok (.iload_n 3, 1) := by decide +kernel
theorem dX12_sees_24 : decode cX12_sees 24 = .ok (.ifCond .ne 7, 3) := by decide +kernel
theorem dX12_sees_27 : decode cX12_sees 27 = .ok (.iconst 1, 1) := by decide +kernel
theorem dX12_sees_28 : decode cX12_sees 28 = .ok (.goto 31, 3) := by decide +kernel
theorem dX12_sees_59 : decode cX12_sees 59 = .ok (.invokevirtual 140, 3) := by decide +kernel
theorem dX12_sees_62 : decode cX12_sees 62 = .ok (.ifCond .ne 5, 3) := by decide +kernel
theorem dX12_sees_65 : decode cX12_sees 65 = .ok (.iconst 0, 1) := by decide +kernel
theorem dX12_sees_66 : decode cX12_sees 66 = .ok (.ireturn, 1) := by decide +kernel
theorem dX12_send_0 : decode cX12_send 0 = .ok (.aload_n 0, 1) := by decide +kernel
theorem dX12_send_1 : decode cX12_send 1 = .ok (.iload_n 1, 1) := by decide +kernel
theorem dX12_send_2 : decode cX12_send 2 = .ok (.iload_n 2, 1) := by decide +kernel
theorem dX12_send_3 : decode cX12_send 3 = .ok (.iload_n 3, 1) := by decide +kernel
theorem dX12_send_4 : decode cX12_send 4 = .ok (.invokevirtual 249, 3) := by decide +kernel
theorem dX12_send_7 : decode cX12_send 7 = .ok (.ifCond .eq 24, 3) := by decide +kernel
theorem dX12_send_31 : decode cX12_send 31 = .ok (.iconst 0, 1) := by decide +kernel
theorem dX12_send_32 : decode cX12_send 32 = .ok (.ireturn, 1) := by decide +kernel
theorem dX12_source_0 : decode cX12_source 0 = .ok (.aload_n 0, 1) := by decide +kernel
theorem dX12_source_1 : decode cX12_source 1 = .ok (.iload_n 1, 1) := by decide +kernel
theorem dX12_source_2 : decode cX12_source 2 = .ok (.invokevirtual 299, 3) := by decide +kernel
theorem dX12_source_5 : decode cX12_source 5 = .ok (.ifCond .eq 12, 3) := by decide +kernel
theorem dX12_source_17 : decode cX12_source 17 = .ok (.iconst 0, 1) := by decide +kernel
theorem dX12_source_18 : decode cX12_source 18 = .ok (.ireturn, 1) := by decide +kernel
theorem dX12_thrown_0 : decode cX12_thrown 0 = .ok (.aload_n 0, 1) := by decide +kernel
theorem dX12_thrown_1 : decode cX12_thrown 1 = .ok (.getfield 125, 3) := by decide +kernel
theorem dX12_thrown_4 : decode cX12_thrown 4 = .ok (.ireturn, 1) := by decide +kernel
theorem dX12_turn_0 : decode cX12_turn 0 = .ok (.aload_n 0, 1) := by decide +kernel
theorem dX12_turn_1 : decode cX12_turn 1 = .ok (.aload_n 0, 1) := by decide +kernel
theorem dX12_turn_2 : decode cX12_turn 2 = .ok (.iload_n 1, 1) := by decide +kernel
theorem dX12_turn_3 : decode cX12_turn 3 = .ok (.invokevirtual 183, 3) := by decide +kernel
theorem dX12_turn_6 : decode cX12_turn 6 = .ok (.ifCond .eq 7, 3) := by decide +kernel
theorem dX12_turn_13 : decode cX12_turn 13 = .ok (.iconst 1, 1) := by decide +kernel
theorem dX12_turn_14 : decode cX12_turn 14 = .ok (.invokevirtual 140, 3) := by decide +kernel
theorem dX12_turn_17 : decode cX12_turn 17 = .ok (.ifCond .ne 5, 3) := by decide +kernel
theorem dX12_turn_20 : decode cX12_turn 20 = .ok (.iconst 0, 1) := by decide +kernel
theorem dX12_turn_21 : decode cX12_turn 21 = .ok (.ireturn, 1) := by decide +kernel
theorem dX12_watch_0 : decode cX12_watch 0 = .ok (.aload_n 0, 1) := by decide +kernel
theorem dX12_watch_1 : decode cX12_watch 1 = .ok (.aload_n 0, 1) := by decide +kernel
theorem dX12_watch_2 : decode cX12_watch 2 = .ok (.iload_n 1, 1) := by decide +kernel
theorem dX12_watch_3 : decode cX12_watch 3 = .ok (.invokevirtual 136, 3) := by decide +kernel
theorem dX12_watch_6 : decode cX12_watch 6 = .ok (.ifCond .ne 7, 3) := by decide +kernel
theorem dX12_watch_9 : decode cX12_watch 9 = .ok (.iconst 1, 1) := by decide +kernel
theorem dX12_watch_10 : decode cX12_watch 10 = .ok (.goto 17, 3) := by decide +kernel
theorem dX12_watch_27 : decode cX12_watch 27 = .ok (.invokevirtual 140, 3) := by decide +kernel
theorem dX12_watch_30 : decode cX12_watch 30 = .ok (.ifCond .ne 5, 3) := by decide +kernel
theorem dX12_watch_33 : decode cX12_watch 33 = .ok (.iconst 0, 1) := by decide +kernel
theorem dX12_watch_34 : decode cX12_watch 34 = .ok (.ireturn, 1) := by decide +kernel
theorem dX12_way_0 : decode cX12_way 0 = .ok (.aload_n 0, 1) := by decide +kernel
theorem dX12_way_1 : decode cX12_way 1 = .ok (.iload_n 1, 1) := by decide +kernel
theorem dX12_way_2 : decode cX12_way 2 = .ok (.invokevirtual 136, 3) := by decide +kernel
theorem dX12_way_5 : decode cX12_way 5 = .ok (.ifCond .eq 12, 3) := by decide +kernel
theorem dX12_way_17 : decode cX12_way 17 = .ok (.iconst 0, 1) := by decide +kernel
theorem dX12_way_18 : decode cX12_way 18 = .ok (.istore 5, 2) := by decide +kernel
theorem dX12_way_20 : decode cX12_way 20 = .ok (.aload_n 0, 1) := by decide +kernel
theorem dX12_way_21 : decode cX12_way 21 = .ok (.iload 5, 2) := by decide +kernel
theorem dX12_way_23 : decode cX12_way 23 = .ok (.ifCond .eq 7, 3) := by decide +kernel
theorem dX12_way_30 : decode cX12_way 30 = .ok (.iconst 1, 1) := by decide +kernel
theorem dX12_way_31 : decode cX12_way 31 = .ok (.invokevirtual 140, 3) := by decide +kernel
theorem dX12_way_34 : decode cX12_way 34 = .ok (.ifCond .eq 13, 3) := by decide +kernel
theorem dX12_way_47 : decode cX12_way 47 = .ok (.iconst 0, 1) := by decide +kernel
theorem dX12_way_48 : decode cX12_way 48 = .ok (.ireturn, 1) := by decide +kernel
theorem dX12_where_0 : decode cX12_where 0 = .ok (.aload_n 0, 1) := by decide +kernel
theorem dX12_where_1 : decode cX12_where 1 = .ok (.iload_n 1, 1) := by decide +kernel
theorem dX12_where_2 : decode cX12_where 2 = .ok (.invokevirtual 299, 3) := by decide +kernel
theorem dX12_where_5 : decode cX12_where 5 = .ok (.ifCond .eq 12, 3) := by decide +kernel
theorem dX12_where_17 : decode cX12_where 17 = .ok (.iconst 0, 1) := by decide +kernel
theorem dX12_where_18 : decode cX12_where 18 = .ok (.ireturn, 1) := by decide +kernel
theorem u_14 : Cond.initialized RX12 ∈ gU := gm (i := 14) (by decide +kernel) (by decide +kernel)
theorem u_1250 : Cond.fieldLink RX12 129 "DrystoneSimnetModel" "boxes" "I" ∈ gU := gm (i := 1250) (by decide +kernel) (by decide +kernel)
theorem u_1252 : Cond.fieldLink RX12 147 "DrystoneSimnetModel" "cables" "I" ∈ gU := gm (i := 1252) (by decide +kernel) (by decide +kernel)
theorem u_1284 : Cond.fieldLink RX12 243 "DrystoneSimnetModel" "frames" "I" ∈ gU := gm (i := 1284) (by decide +kernel) (by decide +kernel)
theorem u_1287 : Cond.fieldLink RX12 246 "DrystoneSimnetModel" "packets" "I" ∈ gU := gm (i := 1287) (by decide +kernel) (by decide +kernel)
theorem u_1296 : Cond.fieldLink RX12 125 "DrystoneSimnetModel" "thrown" "I" ∈ gU := gm (i := 1296) (by decide +kernel) (by decide +kernel)
theorem u_1400 : Cond.methodLink RX12 132 yX12_isIn ∈ gU := gm (i := 1400) (by decide +kernel) (by decide +kernel)
theorem u_1401 : Cond.static yX12_isIn ∈ gU := gm (i := 1401) (by decide +kernel) (by decide +kernel)
theorem u_1402 : Cond.code yX12_isIn cX12_isIn 3 (some .boolean) ∈ gU := gm (i := 1402) (by decide +kernel) (by decide +kernel)
theorem u_1403 : Cond.methodLink RX12 140 yX12_can ∈ gU := gm (i := 1403) (by decide +kernel) (by decide +kernel)
theorem u_1405 : Cond.instanceMethod yX12_can ∈ gU := gm (i := 1405) (by decide +kernel) (by decide +kernel)
theorem u_1406 : Cond.code yX12_can cX12_can 2 (some .boolean) ∈ gU := gm (i := 1406) (by decide +kernel) (by decide +kernel)
theorem u_1411 : Cond.methodLink RX12 176 yX12_isPort ∈ gU := gm (i := 1411) (by decide +kernel) (by decide +kernel)
theorem u_1413 : Cond.instanceMethod yX12_isPort ∈ gU := gm (i := 1413) (by decide +kernel) (by decide +kernel)
theorem u_1414 : Cond.code yX12_isPort cX12_isPort 2 (some .boolean) ∈ gU := gm (i := 1414) (by decide +kernel) (by decide +kernel)
theorem u_1415 : Cond.methodLink RX12 136 yX12_isBox ∈ gU := gm (i := 1415) (by decide +kernel) (by decide +kernel)
theorem u_1417 : Cond.instanceMethod yX12_isBox ∈ gU := gm (i := 1417) (by decide +kernel) (by decide +kernel)
theorem u_1418 : Cond.code yX12_isBox cX12_isBox 2 (some .boolean) ∈ gU := gm (i := 1418) (by decide +kernel) (by decide +kernel)
theorem u_1423 : Cond.methodLink RX12 183 yX12_isCable ∈ gU := gm (i := 1423) (by decide +kernel) (by decide +kernel)
theorem u_1425 : Cond.instanceMethod yX12_isCable ∈ gU := gm (i := 1425) (by decide +kernel) (by decide +kernel)
theorem u_1426 : Cond.code yX12_isCable cX12_isCable 2 (some .boolean) ∈ gU := gm (i := 1426) (by decide +kernel) (by decide +kernel)
theorem u_1494 : Cond.methodLink RX12 192 yX12_isKind ∈ gU := gm (i := 1494) (by decide +kernel) (by decide +kernel)
theorem u_1496 : Cond.instanceMethod yX12_isKind ∈ gU := gm (i := 1496) (by decide +kernel) (by decide +kernel)
theorem u_1497 : Cond.code yX12_isKind cX12_isKind 3 (some .boolean) ∈ gU := gm (i := 1497) (by decide +kernel) (by decide +kernel)
theorem u_1518 : Cond.methodLink RX12 249 yX12_isSent ∈ gU := gm (i := 1518) (by decide +kernel) (by decide +kernel)
theorem u_1520 : Cond.instanceMethod yX12_isSent ∈ gU := gm (i := 1520) (by decide +kernel) (by decide +kernel)
theorem u_1521 : Cond.code yX12_isSent cX12_isSent 4 (some .boolean) ∈ gU := gm (i := 1521) (by decide +kernel) (by decide +kernel)
theorem u_1635 : Cond.methodLink RX12 299 yX12_isPacket ∈ gU := gm (i := 1635) (by decide +kernel) (by decide +kernel)
theorem u_1637 : Cond.instanceMethod yX12_isPacket ∈ gU := gm (i := 1637) (by decide +kernel) (by decide +kernel)
theorem u_1638 : Cond.code yX12_isPacket cX12_isPacket 2 (some .boolean) ∈ gU := gm (i := 1638) (by decide +kernel) (by decide +kernel)
theorem u_1663 : Cond.methodLink RX12 311 yX12_reaches ∈ gU := gm (i := 1663) (by decide +kernel) (by decide +kernel)
theorem u_1665 : Cond.instanceMethod yX12_reaches ∈ gU := gm (i := 1665) (by decide +kernel) (by decide +kernel)
theorem u_1666 : Cond.code yX12_reaches cX12_reaches 5 (some .int) ∈ gU := gm (i := 1666) (by decide +kernel) (by decide +kernel)
theorem v_44 : Cond.selects RX12 yX12_can yX12_can ∈ gU := gp (i := 44) (q := (yX12_can, 47)) (by decide +kernel) (by decide +kernel)
theorem v_45 : Cond.selects RX12 yX12_isPort yX12_isPort ∈ gU := gp (i := 45) (q := (yX12_isPort, 47)) (by decide +kernel) (by decide +kernel)
theorem v_46 : Cond.selects RX12 yX12_isBox yX12_isBox ∈ gU := gp (i := 46) (q := (yX12_isBox, 47)) (by decide +kernel) (by decide +kernel)
theorem v_47 : Cond.selects RX12 yX12_isCable yX12_isCable ∈ gU := gp (i := 47) (q := (yX12_isCable, 47)) (by decide +kernel) (by decide +kernel)
theorem v_59 : Cond.selects RX12 yX12_isKind yX12_isKind ∈ gU := gp (i := 59) (q := (yX12_isKind, 47)) (by decide +kernel) (by decide +kernel)
theorem v_60 : Cond.selects RX12 yX12_isSent yX12_isSent ∈ gU := gp (i := 60) (q := (yX12_isSent, 47)) (by decide +kernel) (by decide +kernel)
theorem v_85 : Cond.selects RX12 yX12_isPacket yX12_isPacket ∈ gU := gp (i := 85) (q := (yX12_isPacket, 47)) (by decide +kernel) (by decide +kernel)
theorem v_86 : Cond.selects RX12 yX12_reaches yX12_reaches ∈ gU := gp (i := 86) (q := (yX12_reaches, 47)) (by decide +kernel) (by decide +kernel)
theorem gX12 : ∀ w ∈ u_ws RX12 TX12 47, w ∈ gU := gIn [1297, 1299, 1301, 1303, 1305, 1307, 1309, 1311, 1313, 1315, 1317, 1319, 1321, 1323, 1325, 1327, 1329, 1331, 1333, 1335, 1337, 1339, 1341, 1343, 1345, 1347, 1349, 1351, 1353, 1355, 1357, 1359, 1361, 1363, 1365, 1367, 1369, 1371, 1373, 1375, 1377, 1379, 1381, 1383, 1385, 1387, 1389] (by decide +kernel) (by decide +kernel)
set_option maxHeartbeats 4000000 in
set_option maxRecDepth 100000 in
theorem c_X12_isIn (l : Launch) (dC : Nat → ClassId) (dI : Nat → Nat → Nat) (sz : Nat) (a : Int32) (lo : Int32) (hi : Int32) : Met l yX12_isIn (Cond.code yX12_isIn cX12_isIn 3 (some .boolean) :: gU) ({ frames := 0, cells := 0, slots := 0, locals := 0 }) (gP dC dI sz [] [] [.int a, .int lo, .int hi]) (va_Qi (fun (r : Int32) (_ : Unit) => r = gIs a lo hi) (fun _ _ => True) (va_A [] sz)) 0 0 (va_A [] sz) := by
  refine Met.ofW (cc := cX12_isIn) (maxL := 3) (ret := (some .boolean)) (by decide) rfl ?_
  intro p e s m args below meth c s₁ B hml hv
  obtain ⟨rfl, hsz, hP, hK, hD0, hE⟩ := hv
  have hx := B.exec
  have hb := B.bytes
  have hr := B.returns
  have hts0 := atoms_spec (ws := Cond.code yX12_isIn cX12_isIn 3 (some .boolean) :: gU) B.pre
  have hts : ∀ w ∈ gU, w.before _ s = true := fun w h => hts0 w (List.mem_cons_of_mem _ h)
  have hown : s.vm.findClass RX12 = some m.cls := findClass_of_methodNamed B.named
  have hlocks := B.notSynchronized
  subst hsz
  have hD := hD0
  generalize hAe : va_A [] s.heap.size = A at ⊢
  have hA : ∀ q : Nat, s.heap.size ≤ q → A q := fun q h => by rw [← hAe]; exact Or.inr h
  have hS : va_S A s.heap s.heap [] := va_S.rf
  have hP : va_P (dC, dI) vwCl [] s.heap := hP
  have hl := lv_entry ([.int a, .int lo, .int hi]) (n := 3) (Nat.le_of_ble_eq_true rfl)
  rw [lg_entry_eq]
  generalize (lg_sl ([.int a, .int lo, .int hi]) ++ List.replicate (3 - (lg_sl ([.int a, .int lo, .int hi])).length) Slot.unset).toArray = ls at hl ⊢
  have hl : lv_has ls 3 [(0, .int a), (1, .int lo), (2, .int hi)] := hl
  refine lv_iload_n hx hb dX12_isIn_0 rfl (lv_at hl 0 rfl) ?_
  refine lv_iload_n hx hb dX12_isIn_1 rfl (lv_at hl 1 rfl) ?_
  refine lv_icmp_lt (tgt := 14) hx hb dX12_isIn_2 (by decide) (fun h1 => ?_) (fun h1 => ?_)
  · refine lv_iconst (v := 0) hx hb dX12_isIn_14 (by decide) ?_
    refine W.widen (k := 0) (n := 0) (Nat.le_of_ble_eq_true rfl) (Nat.le_of_ble_eq_true rfl) ?_
    exact W.zret (v := 0) hx hb hr (by decide) (fun t ht hW => ⟨⟨0, (), rfl, (if_neg (fun q => i_lt_nle h1 q.1)).symm, trivial⟩, hS.F ht⟩) hS.2.2 dX12_isIn_15
  · refine lv_iload_n hx hb dX12_isIn_5 rfl (lv_at hl 0 rfl) ?_
    refine lv_iload_n hx hb dX12_isIn_6 rfl (lv_at hl 2 rfl) ?_
    refine lv_icmp_gt (tgt := 14) hx hb dX12_isIn_7 (by decide) (fun h2 => ?_) (fun h2 => ?_)
    · refine lv_iconst (v := 0) hx hb dX12_isIn_14 (by decide) ?_
      refine W.widen (k := 0) (n := 0) (Nat.le_of_ble_eq_true rfl) (Nat.le_of_ble_eq_true rfl) ?_
      exact W.zret (v := 0) hx hb hr (by decide) (fun t ht hW => ⟨⟨0, (), rfl, (if_neg (fun q => i_lt_nle h2 q.2)).symm, trivial⟩, hS.F ht⟩) hS.2.2 dX12_isIn_15
    · refine lv_iconst (v := 1) hx hb dX12_isIn_10 (by decide) ?_
      refine lv_goto (tgt := 15) hx hb dX12_isIn_11 (by decide) ?_
      refine W.widen (k := 0) (n := 0) (Nat.le_of_ble_eq_true rfl) (Nat.le_of_ble_eq_true rfl) ?_
      exact W.zret (v := 1) hx hb hr (by decide) (fun t ht hW => ⟨⟨1, (), rfl, (if_pos ⟨i_nlt h1, i_nlt h2⟩).symm, trivial⟩, hS.F ht⟩) hS.2.2 dX12_isIn_15
set_option maxHeartbeats 4000000 in
set_option maxRecDepth 100000 in
theorem c_X12_can (l : Launch) (dC : Nat → ClassId) (dI : Nat → Nat → Nat) (sz : Nat) (m0 : Nat) (kd : Nat) (gw : Nat) (fa : Nat) (gM : Nat → Nat) (th : Int32) (a0 : Int32) : Met l yX12_can (Cond.code yX12_can cX12_can 2 (some .boolean) :: gU) ({ frames := 0, cells := 0, slots := 0, locals := 0 }) (gP dC dI sz [(m0, .inr (12, mM kd gw fa gM 0 0 0 0 0 0 0 0 th))] [] [.ref m0, .int a0]) (va_Qi (fun (r : Int32) (_ : Unit) => r = gCan a0) (fun (_ : Unit) (t9 : State) => va_P (dC, dI) vwCl [(m0, .inr (12, mM kd gw fa gM 0 0 0 0 0 0 0 0 a0))] t9.heap ∧ va_K (dC, dI) vwCl [] t9 ∧ va_D (va_A [(m0, .inr (12, mM kd gw fa gM 0 0 0 0 0 0 0 0 th))] sz) [(m0, .inr (12, mM kd gw fa gM 0 0 0 0 0 0 0 0 a0))]) (va_A [(m0, .inr (12, mM kd gw fa gM 0 0 0 0 0 0 0 0 th))] sz)) 0 0 (va_A [(m0, .inr (12, mM kd gw fa gM 0 0 0 0 0 0 0 0 th))] sz) := by
  refine Met.ofW (cc := cX12_can) (maxL := 2) (ret := (some .boolean)) (by decide) rfl ?_
  intro p e s m args below meth c s₁ B hml hv
  obtain ⟨rfl, hsz, hP, hK, hD0, hE⟩ := hv
  have hx := B.exec
  have hb := B.bytes
  have hr := B.returns
  have hts0 := atoms_spec (ws := Cond.code yX12_can cX12_can 2 (some .boolean) :: gU) B.pre
  have hts : ∀ w ∈ gU, w.before _ s = true := fun w h => hts0 w (List.mem_cons_of_mem _ h)
  have hown : s.vm.findClass RX12 = some m.cls := findClass_of_methodNamed B.named
  have hlocks := B.notSynchronized
  subst hsz
  have hD := hD0.self (sz := s.heap.size)
  generalize hAe : va_A [(m0, .inr (12, mM kd gw fa gM 0 0 0 0 0 0 0 0 th))] s.heap.size = A at hD ⊢
  have hA : ∀ q : Nat, s.heap.size ≤ q → A q := fun q h => by rw [← hAe]; exact Or.inr h
  have hS : va_S A s.heap s.heap [] := va_S.rf
  have hP : va_P (dC, dI) vwCl [(m0, .inr (12, mM kd gw fa gM 0 0 0 0 0 0 0 0 th))] s.heap := hP
  have hl := lv_entry ([.ref m0, .int a0]) (n := 2) (Nat.le_of_ble_eq_true rfl)
  rw [lg_entry_eq]
  generalize (lg_sl ([.ref m0, .int a0]) ++ List.replicate (2 - (lg_sl ([.ref m0, .int a0])).length) Slot.unset).toArray = ls at hl ⊢
  have hl : lv_has ls 2 [(0, .ref m0), (1, .int a0)] := hl
  refine lv_aload_n hx hb dX12_can_0 rfl (lv_at hl 0 rfl) ?_
  refine lv_iload_n hx hb dX12_can_1 rfl (lv_at hl 1 rfl) ?_
  refine va_put (D := (dC, dI)) (ci := 12) (v := .int a0) (ty := .int) (C := RX12) (T := TX12) (N := 47) hx hb hts gX12 tyX12 tyX12_ok nmX12 hown hK hP hD hS 0 rfl rfl 46 (by decide) (hts _ u_1296) (fun _ h9 => h9) rfl (by decide +kernel) rfl rfl (Nat.le_of_ble_eq_true rfl) dX12_can_2 (fun H139 locs hP hD hS => ?_)
  have hP : va_P (dC, dI) vwCl [(m0, .inr (12, mM kd gw fa gM 0 0 0 0 0 0 0 0 a0))] H139 := hP
  have hD : va_D A [(m0, .inr (12, mM kd gw fa gM 0 0 0 0 0 0 0 0 a0))] := hD
  refine lv_iload_n hx hb dX12_can_5 rfl (lv_at hl 1 rfl) ?_
  refine lv_if_ne (tgt := 13) hx hb dX12_can_6 (by decide) (fun h1 => ?_) (fun h1 => ?_)
  · refine lv_iconst (v := 0) hx hb dX12_can_13 (by decide) ?_
    refine W.widen (k := 0) (n := 0) (Nat.le_of_ble_eq_true rfl) (Nat.le_of_ble_eq_true rfl) ?_
    exact W.zret (v := 0) hx hb hr (by decide) (fun t ht hW => ⟨⟨0, (), rfl, (if_neg h1).symm, ⟨by rw [ht]; exact hP, va_K.moved hW.alike hK, hD⟩⟩, hS.F ht⟩) hS.2.2 dX12_can_14
  · refine lv_iconst (v := 1) hx hb dX12_can_9 (by decide) ?_
    refine lv_goto (tgt := 14) hx hb dX12_can_10 (by decide) ?_
    refine W.widen (k := 0) (n := 0) (Nat.le_of_ble_eq_true rfl) (Nat.le_of_ble_eq_true rfl) ?_
    exact W.zret (v := 1) hx hb hr (by decide) (fun t ht hW => ⟨⟨1, (), rfl, (if_pos h1).symm, ⟨by rw [ht]; exact hP, va_K.moved hW.alike hK, hD⟩⟩, hS.F ht⟩) hS.2.2 dX12_can_14
set_option maxHeartbeats 4000000 in
set_option maxRecDepth 100000 in
theorem c_X12_isBox (l : Launch) (dC : Nat → ClassId) (dI : Nat → Nat → Nat) (sz : Nat) (m0 : Nat) (kd : Nat) (gw : Nat) (fa : Nat) (gM : Nat → Nat) (th : Int32) (a0 : Int32) : Met l yX12_isBox (Cond.code yX12_isBox cX12_isBox 2 (some .boolean) :: gU) ({ frames := 1, cells := 0, slots := 0, locals := 22 }) (gP dC dI sz [(m0, .inr (12, mM kd gw fa gM 0 0 0 0 0 0 0 0 th))] [] [.ref m0, .int a0]) (va_Qi (fun (r : Int32) (_ : Unit) => r = 0) (fun _ _ => True) (va_A [] sz)) 0 0 (va_A [] sz) := by
  refine Met.ofW (cc := cX12_isBox) (maxL := 2) (ret := (some .boolean)) (by decide) rfl ?_
  intro p e s m args below meth c s₁ B hml hv
  obtain ⟨rfl, hsz, hP, hK, hD0, hE⟩ := hv
  have hx := B.exec
  have hb := B.bytes
  have hr := B.returns
  have hts0 := atoms_spec (ws := Cond.code yX12_isBox cX12_isBox 2 (some .boolean) :: gU) B.pre
  have hts : ∀ w ∈ gU, w.before _ s = true := fun w h => hts0 w (List.mem_cons_of_mem _ h)
  have hown : s.vm.findClass RX12 = some m.cls := findClass_of_methodNamed B.named
  have hlocks := B.notSynchronized
  subst hsz
  have hD := hD0
  generalize hAe : va_A [] s.heap.size = A at ⊢
  have hA : ∀ q : Nat, s.heap.size ≤ q → A q := fun q h => by rw [← hAe]; exact Or.inr h
  have hS : va_S A s.heap s.heap [] := va_S.rf
  have hP : va_P (dC, dI) vwCl [(m0, .inr (12, mM kd gw fa gM 0 0 0 0 0 0 0 0 th))] s.heap := hP
  have hl := lv_entry ([.ref m0, .int a0]) (n := 2) (Nat.le_of_ble_eq_true rfl)
  rw [lg_entry_eq]
  generalize (lg_sl ([.ref m0, .int a0]) ++ List.replicate (2 - (lg_sl ([.ref m0, .int a0])).length) Slot.unset).toArray = ls at hl ⊢
  have hl : lv_has ls 2 [(0, .ref m0), (1, .int a0)] := hl
  refine lv_iload_n hx hb dX12_isBox_0 rfl (lv_at hl 1 rfl) ?_
  refine lv_iconst (v := 0) hx hb dX12_isBox_1 (by decide) ?_
  refine lv_aload_n hx hb dX12_isBox_2 rfl (lv_at hl 0 rfl) ?_
  refine va_get (D := (dC, dI)) (ci := 12) (v := .int 0) (C := RX12) (T := TX12) (N := 47) hx hb hts gX12 hown hK hP 0 rfl rfl 0 (by decide) (hts _ u_1250) (fun _ h9 => h9) rfl dX12_isBox_3 ?_
  refine lv_iconst (v := 1) hx hb dX12_isBox_6 (by decide) ?_
  refine lv_isub hx hb dX12_isBox_7 ?_
  refine lv_topi (fun z140 ez140 => ?_)
  obtain rfl : z140 = (-1) := ez140.trans (by decide)
  have hPc := hP.sub (ws' := []) [] rfl
  have hDc := hD.sub (ws' := []) [] (by decide) rfl
  have hKc := hK.sub (tys' := []) [] rfl
  have hFc := roF hS hA
  refine va_calli (va_runS (As := [.int a0, .int 0, .int (-1)]) (rest := []) ⟨hx, hb, hml, hown, hts⟩ (c_X12_isIn l dC dI s.heap.size a0 0 (-1)) (va_cwS 3 hts (gS u_1400 u_1401 u_14 u_1402) rfl rfl rfl (by decide +kernel) ⟨Nat.le_of_ble_eq_true rfl, Nat.le_of_ble_eq_true rfl⟩) ⟨gP_blind, gP_call hPc hKc hDc hE⟩ rfl rfl hl.1 rfl (lv_room (Nat.le_of_ble_eq_true rfl)) dX12_isBox_8 ⟨(Nat.le_of_ble_eq_true rfl), (Nat.le_of_ble_eq_true rfl)⟩) hS (fun q _ h => hFc q h) hFc (fun r142 u9 t9 H141 locs ht hvm hw hB hz1 hk1 hS => ?_)
  have hP := roP hP hk1
  subst hw
  rw [gIs_no]
  refine W.widen (k := 0) (n := 0) (Nat.le_of_ble_eq_true rfl) (Nat.le_of_ble_eq_true rfl) ?_
  exact W.zret (v := 0) hx hb hr (by decide) (fun t ht hW => ⟨⟨0, (), rfl, rfl, trivial⟩, hS.F ht⟩) hS.2.2 dX12_isBox_11
set_option maxHeartbeats 4000000 in
set_option maxRecDepth 100000 in
theorem c_X12_isCable (l : Launch) (dC : Nat → ClassId) (dI : Nat → Nat → Nat) (sz : Nat) (m0 : Nat) (kd : Nat) (gw : Nat) (fa : Nat) (gM : Nat → Nat) (th : Int32) (a0 : Int32) : Met l yX12_isCable (Cond.code yX12_isCable cX12_isCable 2 (some .boolean) :: gU) ({ frames := 1, cells := 0, slots := 0, locals := 22 }) (gP dC dI sz [(m0, .inr (12, mM kd gw fa gM 0 0 0 0 0 0 0 0 th))] [] [.ref m0, .int a0]) (va_Qi (fun (r : Int32) (_ : Unit) => r = 0) (fun _ _ => True) (va_A [] sz)) 0 0 (va_A [] sz) := by
  refine Met.ofW (cc := cX12_isCable) (maxL := 2) (ret := (some .boolean)) (by decide) rfl ?_
  intro p e s m args below meth c s₁ B hml hv
  obtain ⟨rfl, hsz, hP, hK, hD0, hE⟩ := hv
  have hx := B.exec
  have hb := B.bytes
  have hr := B.returns
  have hts0 := atoms_spec (ws := Cond.code yX12_isCable cX12_isCable 2 (some .boolean) :: gU) B.pre
  have hts : ∀ w ∈ gU, w.before _ s = true := fun w h => hts0 w (List.mem_cons_of_mem _ h)
  have hown : s.vm.findClass RX12 = some m.cls := findClass_of_methodNamed B.named
  have hlocks := B.notSynchronized
  subst hsz
  have hD := hD0
  generalize hAe : va_A [] s.heap.size = A at ⊢
  have hA : ∀ q : Nat, s.heap.size ≤ q → A q := fun q h => by rw [← hAe]; exact Or.inr h
  have hS : va_S A s.heap s.heap [] := va_S.rf
  have hP : va_P (dC, dI) vwCl [(m0, .inr (12, mM kd gw fa gM 0 0 0 0 0 0 0 0 th))] s.heap := hP
  have hl := lv_entry ([.ref m0, .int a0]) (n := 2) (Nat.le_of_ble_eq_true rfl)
  rw [lg_entry_eq]
  generalize (lg_sl ([.ref m0, .int a0]) ++ List.replicate (2 - (lg_sl ([.ref m0, .int a0])).length) Slot.unset).toArray = ls at hl ⊢
  have hl : lv_has ls 2 [(0, .ref m0), (1, .int a0)] := hl
  refine lv_iload_n hx hb dX12_isCable_0 rfl (lv_at hl 1 rfl) ?_
  refine lv_iconst (v := 0) hx hb dX12_isCable_1 (by decide) ?_
  refine lv_aload_n hx hb dX12_isCable_2 rfl (lv_at hl 0 rfl) ?_
  refine va_get (D := (dC, dI)) (ci := 12) (v := .int 0) (C := RX12) (T := TX12) (N := 47) hx hb hts gX12 hown hK hP 0 rfl rfl 2 (by decide) (hts _ u_1252) (fun _ h9 => h9) rfl dX12_isCable_3 ?_
  refine lv_iconst (v := 1) hx hb dX12_isCable_6 (by decide) ?_
  refine lv_isub hx hb dX12_isCable_7 ?_
  refine lv_topi (fun z143 ez143 => ?_)
  obtain rfl : z143 = (-1) := ez143.trans (by decide)
  have hPc := hP.sub (ws' := []) [] rfl
  have hDc := hD.sub (ws' := []) [] (by decide) rfl
  have hKc := hK.sub (tys' := []) [] rfl
  have hFc := roF hS hA
  refine va_calli (va_runS (As := [.int a0, .int 0, .int (-1)]) (rest := []) ⟨hx, hb, hml, hown, hts⟩ (c_X12_isIn l dC dI s.heap.size a0 0 (-1)) (va_cwS 3 hts (gS u_1400 u_1401 u_14 u_1402) rfl rfl rfl (by decide +kernel) ⟨Nat.le_of_ble_eq_true rfl, Nat.le_of_ble_eq_true rfl⟩) ⟨gP_blind, gP_call hPc hKc hDc hE⟩ rfl rfl hl.1 rfl (lv_room (Nat.le_of_ble_eq_true rfl)) dX12_isCable_8 ⟨(Nat.le_of_ble_eq_true rfl), (Nat.le_of_ble_eq_true rfl)⟩) hS (fun q _ h => hFc q h) hFc (fun r145 u9 t9 H144 locs ht hvm hw hB hz1 hk1 hS => ?_)
  have hP := roP hP hk1
  subst hw
  rw [gIs_no]
  refine W.widen (k := 0) (n := 0) (Nat.le_of_ble_eq_true rfl) (Nat.le_of_ble_eq_true rfl) ?_
  exact W.zret (v := 0) hx hb hr (by decide) (fun t ht hW => ⟨⟨0, (), rfl, rfl, trivial⟩, hS.F ht⟩) hS.2.2 dX12_isCable_11
set_option maxHeartbeats 4000000 in
set_option maxRecDepth 100000 in
theorem c_X12_isPort (l : Launch) (dC : Nat → ClassId) (dI : Nat → Nat → Nat) (sz : Nat) (m0 : Nat) (kd : Nat) (gw : Nat) (fa : Nat) (gM : Nat → Nat) (th : Int32) (a0 : Int32) : Met l yX12_isPort (Cond.code yX12_isPort cX12_isPort 2 (some .boolean) :: gU) ({ frames := 2, cells := 0, slots := 0, locals := 43 }) (gP dC dI sz [(m0, .inr (12, mM kd gw fa gM 0 0 0 0 0 0 0 0 th))] [] [.ref m0, .int a0]) (va_Qi (fun (r : Int32) (_ : Unit) => r = 0) (fun _ _ => True) (va_A [] sz)) 0 0 (va_A [] sz) := by
  refine Met.ofW (cc := cX12_isPort) (maxL := 2) (ret := (some .boolean)) (by decide) rfl ?_
  intro p e s m args below meth c s₁ B hml hv
  obtain ⟨rfl, hsz, hP, hK, hD0, hE⟩ := hv
  have hx := B.exec
  have hb := B.bytes
  have hr := B.returns
  have hts0 := atoms_spec (ws := Cond.code yX12_isPort cX12_isPort 2 (some .boolean) :: gU) B.pre
  have hts : ∀ w ∈ gU, w.before _ s = true := fun w h => hts0 w (List.mem_cons_of_mem _ h)
  have hown : s.vm.findClass RX12 = some m.cls := findClass_of_methodNamed B.named
  have hlocks := B.notSynchronized
  subst hsz
  have hD := hD0
  generalize hAe : va_A [] s.heap.size = A at ⊢
  have hA : ∀ q : Nat, s.heap.size ≤ q → A q := fun q h => by rw [← hAe]; exact Or.inr h
  have hS : va_S A s.heap s.heap [] := va_S.rf
  have hP : va_P (dC, dI) vwCl [(m0, .inr (12, mM kd gw fa gM 0 0 0 0 0 0 0 0 th))] s.heap := hP
  have hl := lv_entry ([.ref m0, .int a0]) (n := 2) (Nat.le_of_ble_eq_true rfl)
  rw [lg_entry_eq]
  generalize (lg_sl ([.ref m0, .int a0]) ++ List.replicate (2 - (lg_sl ([.ref m0, .int a0])).length) Slot.unset).toArray = ls at hl ⊢
  have hl : lv_has ls 2 [(0, .ref m0), (1, .int a0)] := hl
  refine lv_iload_n hx hb dX12_isPort_0 rfl (lv_at hl 1 rfl) ?_
  refine lv_if_lt (tgt := 56) hx hb dX12_isPort_1 (by decide) (fun h1 => ?_) (fun h1 => ?_)
  · refine lv_iconst (v := 0) hx hb dX12_isPort_56 (by decide) ?_
    refine W.widen (k := 0) (n := 0) (Nat.le_of_ble_eq_true rfl) (Nat.le_of_ble_eq_true rfl) ?_
    exact W.zret (v := 0) hx hb hr (by decide) (fun t ht hW => ⟨⟨0, (), rfl, rfl, trivial⟩, hS.F ht⟩) hS.2.2 dX12_isPort_57
  · refine lv_aload_n hx hb dX12_isPort_4 rfl (lv_at hl 0 rfl) ?_
    refine lv_iload_n hx hb dX12_isPort_5 rfl (lv_at hl 1 rfl) ?_
    refine lv_iconst (v := 4) hx hb dX12_isPort_6 (by decide) ?_
    refine lv_idiv hx hb dX12_isPort_7 (by decide) ?_
    have hPc := hP.sub (ws' := [(m0, .inr (12, mM kd gw fa gM 0 0 0 0 0 0 0 0 th))]) [0] rfl
    have hDc := hD.sub (ws' := [(m0, .inr (12, mM kd gw fa gM 0 0 0 0 0 0 0 0 th))]) [0] (by decide) rfl
    have hKc := hK.sub (tys' := []) [] rfl
    have hFc := roF hS hA
    refine va_calli (va_runV (As := [.int (a0 / 4)]) (rest := []) ⟨hx, hb, hml, hown, hts⟩ (c_X12_isBox l dC dI s.heap.size m0 kd gw fa gM th (a0 / 4)) (cwV 1 hts (gV u_1415 u_1417 v_46 u_14 u_1418) rfl rfl rfl (by decide +kernel) ⟨Nat.le_of_ble_eq_true rfl, Nat.le_of_ble_eq_true rfl⟩) ⟨gP_blind, va_recv hKc hPc (ci := 12) (q0 := 0) rfl rfl, gP_call hPc hKc hDc hE⟩ rfl rfl hl.1 rfl (lv_room (Nat.le_of_ble_eq_true rfl)) dX12_isPort_8 ⟨(Nat.le_of_ble_eq_true rfl), (Nat.le_of_ble_eq_true rfl)⟩) hS (fun q _ h => hFc q h) hFc (fun r147 u9 t9 H146 locs ht hvm hw hB hz1 hk1 hS => ?_)
    have hP := roP hP hk1
    subst hw
    refine lv_if_eq (tgt := 56) hx hb dX12_isPort_11 (by decide) (fun _ => ?_) (fun h9 => absurd (by decide) h9)
    refine lv_iconst (v := 0) hx hb dX12_isPort_56 (by decide) ?_
    refine W.widen (k := 0) (n := 0) (Nat.le_of_ble_eq_true rfl) (Nat.le_of_ble_eq_true rfl) ?_
    exact W.zret (v := 0) hx hb hr (by decide) (fun t ht hW => ⟨⟨0, (), rfl, rfl, trivial⟩, hS.F ht⟩) hS.2.2 dX12_isPort_57
set_option maxHeartbeats 4000000 in
set_option maxRecDepth 100000 in
theorem c_X12_isKind (l : Launch) (dC : Nat → ClassId) (dI : Nat → Nat → Nat) (sz : Nat) (m0 : Nat) (kd : Nat) (gw : Nat) (fa : Nat) (gM : Nat → Nat) (th : Int32) (a0 : Int32) (a1 : Int32) : Met l yX12_isKind (Cond.code yX12_isKind cX12_isKind 3 (some .boolean) :: gU) ({ frames := 2, cells := 0, slots := 0, locals := 43 }) (gP dC dI sz [(m0, .inr (12, mM kd gw fa gM 0 0 0 0 0 0 0 0 th))] [] [.ref m0, .int a0, .int a1]) (va_Qi (fun (r : Int32) (_ : Unit) => r = 0) (fun _ _ => True) (va_A [] sz)) 0 0 (va_A [] sz) := by
  refine Met.ofW (cc := cX12_isKind) (maxL := 3) (ret := (some .boolean)) (by decide) rfl ?_
  intro p e s m args below meth c s₁ B hml hv
  obtain ⟨rfl, hsz, hP, hK, hD0, hE⟩ := hv
  have hx := B.exec
  have hb := B.bytes
  have hr := B.returns
  have hts0 := atoms_spec (ws := Cond.code yX12_isKind cX12_isKind 3 (some .boolean) :: gU) B.pre
  have hts : ∀ w ∈ gU, w.before _ s = true := fun w h => hts0 w (List.mem_cons_of_mem _ h)
  have hown : s.vm.findClass RX12 = some m.cls := findClass_of_methodNamed B.named
  have hlocks := B.notSynchronized
  subst hsz
  have hD := hD0
  generalize hAe : va_A [] s.heap.size = A at ⊢
  have hA : ∀ q : Nat, s.heap.size ≤ q → A q := fun q h => by rw [← hAe]; exact Or.inr h
  have hS : va_S A s.heap s.heap [] := va_S.rf
  have hP : va_P (dC, dI) vwCl [(m0, .inr (12, mM kd gw fa gM 0 0 0 0 0 0 0 0 th))] s.heap := hP
  have hl := lv_entry ([.ref m0, .int a0, .int a1]) (n := 3) (Nat.le_of_ble_eq_true rfl)
  rw [lg_entry_eq]
  generalize (lg_sl ([.ref m0, .int a0, .int a1]) ++ List.replicate (3 - (lg_sl ([.ref m0, .int a0, .int a1])).length) Slot.unset).toArray = ls at hl ⊢
  have hl : lv_has ls 3 [(0, .ref m0), (1, .int a0), (2, .int a1)] := hl
  refine lv_aload_n hx hb dX12_isKind_0 rfl (lv_at hl 0 rfl) ?_
  refine lv_iload_n hx hb dX12_isKind_1 rfl (lv_at hl 1 rfl) ?_
  have hPc := hP.sub (ws' := [(m0, .inr (12, mM kd gw fa gM 0 0 0 0 0 0 0 0 th))]) [0] rfl
  have hDc := hD.sub (ws' := [(m0, .inr (12, mM kd gw fa gM 0 0 0 0 0 0 0 0 th))]) [0] (by decide) rfl
  have hKc := hK.sub (tys' := []) [] rfl
  have hFc := roF hS hA
  refine va_calli (va_runV (As := [.int a0]) (rest := []) ⟨hx, hb, hml, hown, hts⟩ (c_X12_isBox l dC dI s.heap.size m0 kd gw fa gM th a0) (cwV 1 hts (gV u_1415 u_1417 v_46 u_14 u_1418) rfl rfl rfl (by decide +kernel) ⟨Nat.le_of_ble_eq_true rfl, Nat.le_of_ble_eq_true rfl⟩) ⟨gP_blind, va_recv hKc hPc (ci := 12) (q0 := 0) rfl rfl, gP_call hPc hKc hDc hE⟩ rfl rfl hl.1 rfl (lv_room (Nat.le_of_ble_eq_true rfl)) dX12_isKind_2 ⟨(Nat.le_of_ble_eq_true rfl), (Nat.le_of_ble_eq_true rfl)⟩) hS (fun q _ h => hFc q h) hFc (fun r149 u9 t9 H148 locs ht hvm hw hB hz1 hk1 hS => ?_)
  have hP := roP hP hk1
  subst hw
  refine lv_if_eq (tgt := 22) hx hb dX12_isKind_5 (by decide) (fun _ => ?_) (fun h9 => absurd (by decide) h9)
  refine lv_iconst (v := 0) hx hb dX12_isKind_22 (by decide) ?_
  refine W.widen (k := 0) (n := 0) (Nat.le_of_ble_eq_true rfl) (Nat.le_of_ble_eq_true rfl) ?_
  exact W.zret (v := 0) hx hb hr (by decide) (fun t ht hW => ⟨⟨0, (), rfl, rfl, trivial⟩, hS.F ht⟩) hS.2.2 dX12_isKind_23
set_option maxHeartbeats 4000000 in
set_option maxRecDepth 100000 in
theorem c_X12_isPacket (l : Launch) (dC : Nat → ClassId) (dI : Nat → Nat → Nat) (sz : Nat) (m0 : Nat) (kd : Nat) (gw : Nat) (fa : Nat) (gM : Nat → Nat) (th : Int32) (a0 : Int32) : Met l yX12_isPacket (Cond.code yX12_isPacket cX12_isPacket 2 (some .boolean) :: gU) ({ frames := 1, cells := 0, slots := 0, locals := 22 }) (gP dC dI sz [(m0, .inr (12, mM kd gw fa gM 0 0 0 0 0 0 0 0 th))] [] [.ref m0, .int a0]) (va_Qi (fun (r : Int32) (_ : Unit) => r = 0) (fun (_ : Unit) (t9 : State) => va_P (dC, dI) vwCl [(m0, .inr (12, mM kd gw fa gM 0 0 0 0 0 0 0 0 1))] t9.heap ∧ va_K (dC, dI) vwCl [] t9 ∧ va_D (va_A [(m0, .inr (12, mM kd gw fa gM 0 0 0 0 0 0 0 0 th))] sz) [(m0, .inr (12, mM kd gw fa gM 0 0 0 0 0 0 0 0 1))]) (va_A [(m0, .inr (12, mM kd gw fa gM 0 0 0 0 0 0 0 0 th))] sz)) 0 0 (va_A [(m0, .inr (12, mM kd gw fa gM 0 0 0 0 0 0 0 0 th))] sz) := by
  refine Met.ofW (cc := cX12_isPacket) (maxL := 2) (ret := (some .boolean)) (by decide) rfl ?_
  intro p e s m args below meth c s₁ B hml hv
  obtain ⟨rfl, hsz, hP, hK, hD0, hE⟩ := hv
  have hx := B.exec
  have hb := B.bytes
  have hr := B.returns
  have hts0 := atoms_spec (ws := Cond.code yX12_isPacket cX12_isPacket 2 (some .boolean) :: gU) B.pre
  have hts : ∀ w ∈ gU, w.before _ s = true := fun w h => hts0 w (List.mem_cons_of_mem _ h)
  have hown : s.vm.findClass RX12 = some m.cls := findClass_of_methodNamed B.named
  have hlocks := B.notSynchronized
  subst hsz
  have hD := hD0.self (sz := s.heap.size)
  generalize hAe : va_A [(m0, .inr (12, mM kd gw fa gM 0 0 0 0 0 0 0 0 th))] s.heap.size = A at hD ⊢
  have hA : ∀ q : Nat, s.heap.size ≤ q → A q := fun q h => by rw [← hAe]; exact Or.inr h
  have hS : va_S A s.heap s.heap [] := va_S.rf
  have hP : va_P (dC, dI) vwCl [(m0, .inr (12, mM kd gw fa gM 0 0 0 0 0 0 0 0 th))] s.heap := hP
  have hl := lv_entry ([.ref m0, .int a0]) (n := 2) (Nat.le_of_ble_eq_true rfl)
  rw [lg_entry_eq]
  generalize (lg_sl ([.ref m0, .int a0]) ++ List.replicate (2 - (lg_sl ([.ref m0, .int a0])).length) Slot.unset).toArray = ls at hl ⊢
  have hl : lv_has ls 2 [(0, .ref m0), (1, .int a0)] := hl
  refine lv_aload_n hx hb dX12_isPacket_0 rfl (lv_at hl 0 rfl) ?_
  refine lv_iload_n hx hb dX12_isPacket_1 rfl (lv_at hl 1 rfl) ?_
  refine lv_iconst (v := 0) hx hb dX12_isPacket_2 (by decide) ?_
  refine lv_aload_n hx hb dX12_isPacket_3 rfl (lv_at hl 0 rfl) ?_
  refine va_get (D := (dC, dI)) (ci := 12) (v := .int 0) (C := RX12) (T := TX12) (N := 47) hx hb hts gX12 hown hK hP 0 rfl rfl 37 (by decide) (hts _ u_1287) (fun _ h9 => h9) rfl dX12_isPacket_4 ?_
  refine lv_iconst (v := 1) hx hb dX12_isPacket_7 (by decide) ?_
  refine lv_isub hx hb dX12_isPacket_8 ?_
  refine lv_topi (fun z150 ez150 => ?_)
  obtain rfl : z150 = (-1) := ez150.trans (by decide)
  have hPc := hP.sub (ws' := []) [] rfl
  have hDc := hD.sub (ws' := []) [] (by decide) rfl
  have hKc := hK.sub (tys' := []) [] rfl
  have hFc := roF hS hA
  refine va_calli (va_runS (As := [.int a0, .int 0, .int (-1)]) (rest := [.ref m0]) ⟨hx, hb, hml, hown, hts⟩ (c_X12_isIn l dC dI s.heap.size a0 0 (-1)) (va_cwS 3 hts (gS u_1400 u_1401 u_14 u_1402) rfl rfl rfl (by decide +kernel) ⟨Nat.le_of_ble_eq_true rfl, Nat.le_of_ble_eq_true rfl⟩) ⟨gP_blind, gP_call hPc hKc hDc hE⟩ rfl rfl hl.1 rfl (lv_room (Nat.le_of_ble_eq_true rfl)) dX12_isPacket_9 ⟨(Nat.le_of_ble_eq_true rfl), (Nat.le_of_ble_eq_true rfl)⟩) hS (fun q _ h => hFc q h) hFc (fun r152 u9 t9 H151 locs ht hvm hw hB hz1 hk1 hS => ?_)
  have hP := roP hP hk1
  subst hw
  rw [gIs_no]
  refine lv_if_eq (tgt := 19) hx hb dX12_isPacket_12 (by decide) (fun _ => ?_) (fun h9 => absurd (by decide) h9)
  refine lv_iconst (v := 1) hx hb dX12_isPacket_19 (by decide) ?_
  have hPc := hP.sub (ws' := [(m0, .inr (12, mM kd gw fa gM 0 0 0 0 0 0 0 0 th))]) [0] rfl
  have hDc := hD.sub (ws' := [(m0, .inr (12, mM kd gw fa gM 0 0 0 0 0 0 0 0 th))]) [0] (by decide) rfl
  have hKc := hK.sub (tys' := []) [] rfl
  have hFc := va_free (wc := [(m0, .inr (12, mM kd gw fa gM 0 0 0 0 0 0 0 0 th))]) hD hS hA [0] rfl
  refine va_calli (va_runV (As := [.int 1]) (rest := []) ⟨hx, hb, hml, hown, hts⟩ (c_X12_can l dC dI H151.size m0 kd gw fa gM th 1) (cwV 1 hts (gV u_1403 u_1405 v_44 u_14 u_1406) rfl rfl rfl (by decide +kernel) ⟨Nat.le_of_ble_eq_true rfl, Nat.le_of_ble_eq_true rfl⟩) ⟨gP_blind, va_recv hKc hPc (ci := 12) (q0 := 0) rfl rfl, gP_call hPc hKc hDc hE⟩ rfl rfl hl.1 rfl (lv_room (Nat.le_of_ble_eq_true rfl)) dX12_isPacket_20 ⟨(Nat.le_of_ble_eq_true rfl), (Nat.le_of_ble_eq_true rfl)⟩) hS (fun q _ h => hFc q h) hFc (fun r154 u9 t9 H153 locs ht hvm hw hB hz1 hk1 hS => ?_)
  obtain ⟨hP1, hK1, hD1⟩ := hB
  rw [ht] at hP1
  have hK1 := va_K.moved hvm.symm hK1
  obtain ⟨hP, hD⟩ := va_join (wr := []) (w1 := [(m0, .inr (12, mM kd gw fa gM 0 0 0 0 0 0 0 0 1))]) hP hD [0] [] rfl rfl (by decide) (by decide) hk1 hFc hP1 hD1
  have hK := (hK.sub (tys' := []) [] rfl).app hK1
  have hK : va_K (dC, dI) vwCl [] s := hK
  have hP : va_P (dC, dI) vwCl [(m0, .inr (12, mM kd gw fa gM 0 0 0 0 0 0 0 0 1))] H153 := hP
  have hD : va_D A [(m0, .inr (12, mM kd gw fa gM 0 0 0 0 0 0 0 0 1))] := hD
  subst hw
  rw [show gCan 1 = 0 from by decide]
  refine W.widen (k := 0) (n := 0) (Nat.le_of_ble_eq_true rfl) (Nat.le_of_ble_eq_true rfl) ?_
  exact W.zret (v := 0) hx hb hr (by decide) (fun t ht hW => ⟨⟨0, (), rfl, rfl, ⟨by rw [ht]; exact hP, va_K.moved hW.alike hK, hD⟩⟩, hS.F ht⟩) hS.2.2 dX12_isPacket_23
set_option maxHeartbeats 4000000 in
set_option maxRecDepth 100000 in
theorem c_X12_isSent (l : Launch) (dC : Nat → ClassId) (dI : Nat → Nat → Nat) (sz : Nat) (m0 : Nat) (kd : Nat) (gw : Nat) (fa : Nat) (gM : Nat → Nat) (th : Int32) (a0 : Int32) (a1 : Int32) (a2 : Int32) : Met l yX12_isSent (Cond.code yX12_isSent cX12_isSent 4 (some .boolean) :: gU) ({ frames := 2, cells := 0, slots := 0, locals := 43 }) (gP dC dI sz [(m0, .inr (12, mM kd gw fa gM 0 0 0 0 0 0 0 0 th))] [] [.ref m0, .int a0, .int a1, .int a2]) (va_Qi (fun (r : Int32) (_ : Unit) => r = 0) (fun (_ : Unit) (t9 : State) => va_P (dC, dI) vwCl [(m0, .inr (12, mM kd gw fa gM 0 0 0 0 0 0 0 0 1))] t9.heap ∧ va_K (dC, dI) vwCl [] t9 ∧ va_D (va_A [(m0, .inr (12, mM kd gw fa gM 0 0 0 0 0 0 0 0 th))] sz) [(m0, .inr (12, mM kd gw fa gM 0 0 0 0 0 0 0 0 1))]) (va_A [(m0, .inr (12, mM kd gw fa gM 0 0 0 0 0 0 0 0 th))] sz)) 0 0 (va_A [(m0, .inr (12, mM kd gw fa gM 0 0 0 0 0 0 0 0 th))] sz) := by
  refine Met.ofW (cc := cX12_isSent) (maxL := 4) (ret := (some .boolean)) (by decide) rfl ?_
  intro p e s m args below meth c s₁ B hml hv
  obtain ⟨rfl, hsz, hP, hK, hD0, hE⟩ := hv
  have hx := B.exec
  have hb := B.bytes
  have hr := B.returns
  have hts0 := atoms_spec (ws := Cond.code yX12_isSent cX12_isSent 4 (some .boolean) :: gU) B.pre
  have hts : ∀ w ∈ gU, w.before _ s = true := fun w h => hts0 w (List.mem_cons_of_mem _ h)
  have hown : s.vm.findClass RX12 = some m.cls := findClass_of_methodNamed B.named
  have hlocks := B.notSynchronized
  subst hsz
  have hD := hD0.self (sz := s.heap.size)
  generalize hAe : va_A [(m0, .inr (12, mM kd gw fa gM 0 0 0 0 0 0 0 0 th))] s.heap.size = A at hD ⊢
  have hA : ∀ q : Nat, s.heap.size ≤ q → A q := fun q h => by rw [← hAe]; exact Or.inr h
  have hS : va_S A s.heap s.heap [] := va_S.rf
  have hP : va_P (dC, dI) vwCl [(m0, .inr (12, mM kd gw fa gM 0 0 0 0 0 0 0 0 th))] s.heap := hP
  have hl := lv_entry ([.ref m0, .int a0, .int a1, .int a2]) (n := 4) (Nat.le_of_ble_eq_true rfl)
  rw [lg_entry_eq]
  generalize (lg_sl ([.ref m0, .int a0, .int a1, .int a2]) ++ List.replicate (4 - (lg_sl ([.ref m0, .int a0, .int a1, .int a2])).length) Slot.unset).toArray = ls at hl ⊢
  have hl : lv_has ls 4 [(0, .ref m0), (1, .int a0), (2, .int a1), (3, .int a2)] := hl
  refine lv_aload_n hx hb dX12_isSent_0 rfl (lv_at hl 0 rfl) ?_
  refine lv_aload_n hx hb dX12_isSent_1 rfl (lv_at hl 0 rfl) ?_
  refine lv_iload_n hx hb dX12_isSent_2 rfl (lv_at hl 1 rfl) ?_
  have hPc := hP.sub (ws' := [(m0, .inr (12, mM kd gw fa gM 0 0 0 0 0 0 0 0 th))]) [0] rfl
  have hDc := hD.sub (ws' := [(m0, .inr (12, mM kd gw fa gM 0 0 0 0 0 0 0 0 th))]) [0] (by decide) rfl
  have hKc := hK.sub (tys' := []) [] rfl
  have hFc := roF hS hA
  refine va_calli (va_runV (As := [.int a0]) (rest := [.ref m0]) ⟨hx, hb, hml, hown, hts⟩ (c_X12_isBox l dC dI s.heap.size m0 kd gw fa gM th a0) (cwV 1 hts (gV u_1415 u_1417 v_46 u_14 u_1418) rfl rfl rfl (by decide +kernel) ⟨Nat.le_of_ble_eq_true rfl, Nat.le_of_ble_eq_true rfl⟩) ⟨gP_blind, va_recv hKc hPc (ci := 12) (q0 := 0) rfl rfl, gP_call hPc hKc hDc hE⟩ rfl rfl hl.1 rfl (lv_room (Nat.le_of_ble_eq_true rfl)) dX12_isSent_3 ⟨(Nat.le_of_ble_eq_true rfl), (Nat.le_of_ble_eq_true rfl)⟩) hS (fun q _ h => hFc q h) hFc (fun r156 u9 t9 H155 locs ht hvm hw hB hz1 hk1 hS => ?_)
  have hP := roP hP hk1
  subst hw
  refine lv_if_ne (tgt := 13) hx hb dX12_isSent_6 (by decide) (fun h9 => absurd (by decide) h9) (fun _ => ?_)
  refine lv_iconst (v := 1) hx hb dX12_isSent_9 (by decide) ?_
  refine lv_goto (tgt := 43) hx hb dX12_isSent_10 (by decide) ?_
  have hPc := hP.sub (ws' := [(m0, .inr (12, mM kd gw fa gM 0 0 0 0 0 0 0 0 th))]) [0] rfl
  have hDc := hD.sub (ws' := [(m0, .inr (12, mM kd gw fa gM 0 0 0 0 0 0 0 0 th))]) [0] (by decide) rfl
  have hKc := hK.sub (tys' := []) [] rfl
  have hFc := va_free (wc := [(m0, .inr (12, mM kd gw fa gM 0 0 0 0 0 0 0 0 th))]) hD hS hA [0] rfl
  refine va_calli (va_runV (As := [.int 1]) (rest := []) ⟨hx, hb, hml, hown, hts⟩ (c_X12_can l dC dI H155.size m0 kd gw fa gM th 1) (cwV 1 hts (gV u_1403 u_1405 v_44 u_14 u_1406) rfl rfl rfl (by decide +kernel) ⟨Nat.le_of_ble_eq_true rfl, Nat.le_of_ble_eq_true rfl⟩) ⟨gP_blind, va_recv hKc hPc (ci := 12) (q0 := 0) rfl rfl, gP_call hPc hKc hDc hE⟩ rfl rfl hl.1 rfl (lv_room (Nat.le_of_ble_eq_true rfl)) dX12_isSent_43 ⟨(Nat.le_of_ble_eq_true rfl), (Nat.le_of_ble_eq_true rfl)⟩) hS (fun q _ h => hFc q h) hFc (fun r158 u9 t9 H157 locs ht hvm hw hB hz1 hk1 hS => ?_)
  obtain ⟨hP1, hK1, hD1⟩ := hB
  rw [ht] at hP1
  have hK1 := va_K.moved hvm.symm hK1
  obtain ⟨hP, hD⟩ := va_join (wr := []) (w1 := [(m0, .inr (12, mM kd gw fa gM 0 0 0 0 0 0 0 0 1))]) hP hD [0] [] rfl rfl (by decide) (by decide) hk1 hFc hP1 hD1
  have hK := (hK.sub (tys' := []) [] rfl).app hK1
  have hK : va_K (dC, dI) vwCl [] s := hK
  have hP : va_P (dC, dI) vwCl [(m0, .inr (12, mM kd gw fa gM 0 0 0 0 0 0 0 0 1))] H157 := hP
  have hD : va_D A [(m0, .inr (12, mM kd gw fa gM 0 0 0 0 0 0 0 0 1))] := hD
  subst hw
  rw [show gCan 1 = 0 from by decide]
  refine W.widen (k := 0) (n := 0) (Nat.le_of_ble_eq_true rfl) (Nat.le_of_ble_eq_true rfl) ?_
  exact W.zret (v := 0) hx hb hr (by decide) (fun t ht hW => ⟨⟨0, (), rfl, rfl, ⟨by rw [ht]; exact hP, va_K.moved hW.alike hK, hD⟩⟩, hS.F ht⟩) hS.2.2 dX12_isSent_46
set_option maxHeartbeats 4000000 in
set_option maxRecDepth 100000 in
theorem c_X12_reaches (l : Launch) (dC : Nat → ClassId) (dI : Nat → Nat → Nat) (sz : Nat) (m0 : Nat) (kd : Nat) (gw : Nat) (fa : Nat) (gM : Nat → Nat) (th : Int32) (a0 : Int32) (a1 : Int32) : Met l yX12_reaches (Cond.code yX12_reaches cX12_reaches 5 (some .int) :: gU) ({ frames := 2, cells := 0, slots := 0, locals := 43 }) (gP dC dI sz [(m0, .inr (12, mM kd gw fa gM 0 0 0 0 0 0 0 0 th))] [] [.ref m0, .int a0, .int a1]) (va_Qi (fun (r : Int32) (_ : Unit) => r = 0) (fun (_ : Unit) (t9 : State) => va_P (dC, dI) vwCl [(m0, .inr (12, mM kd gw fa gM 0 0 0 0 0 0 0 0 1))] t9.heap ∧ va_K (dC, dI) vwCl [] t9 ∧ va_D (va_A [(m0, .inr (12, mM kd gw fa gM 0 0 0 0 0 0 0 0 th))] sz) [(m0, .inr (12, mM kd gw fa gM 0 0 0 0 0 0 0 0 1))]) (va_A [(m0, .inr (12, mM kd gw fa gM 0 0 0 0 0 0 0 0 th))] sz)) 0 0 (va_A [(m0, .inr (12, mM kd gw fa gM 0 0 0 0 0 0 0 0 th))] sz) := by
  refine Met.ofW (cc := cX12_reaches) (maxL := 5) (ret := (some .int)) (by decide) rfl ?_
  intro p e s m args below meth c s₁ B hml hv
  obtain ⟨rfl, hsz, hP, hK, hD0, hE⟩ := hv
  have hx := B.exec
  have hb := B.bytes
  have hr := B.returns
  have hts0 := atoms_spec (ws := Cond.code yX12_reaches cX12_reaches 5 (some .int) :: gU) B.pre
  have hts : ∀ w ∈ gU, w.before _ s = true := fun w h => hts0 w (List.mem_cons_of_mem _ h)
  have hown : s.vm.findClass RX12 = some m.cls := findClass_of_methodNamed B.named
  have hlocks := B.notSynchronized
  subst hsz
  have hD := hD0.self (sz := s.heap.size)
  generalize hAe : va_A [(m0, .inr (12, mM kd gw fa gM 0 0 0 0 0 0 0 0 th))] s.heap.size = A at hD ⊢
  have hA : ∀ q : Nat, s.heap.size ≤ q → A q := fun q h => by rw [← hAe]; exact Or.inr h
  have hS : va_S A s.heap s.heap [] := va_S.rf
  have hP : va_P (dC, dI) vwCl [(m0, .inr (12, mM kd gw fa gM 0 0 0 0 0 0 0 0 th))] s.heap := hP
  have hl := lv_entry ([.ref m0, .int a0, .int a1]) (n := 5) (Nat.le_of_ble_eq_true rfl)
  rw [lg_entry_eq]
  generalize (lg_sl ([.ref m0, .int a0, .int a1]) ++ List.replicate (5 - (lg_sl ([.ref m0, .int a0, .int a1])).length) Slot.unset).toArray = ls at hl ⊢
  have hl : lv_has ls 5 [(0, .ref m0), (1, .int a0), (2, .int a1)] := hl
  refine lv_aload_n hx hb dX12_reaches_0 rfl (lv_at hl 0 rfl) ?_
  refine lv_aload_n hx hb dX12_reaches_1 rfl (lv_at hl 0 rfl) ?_
  refine lv_iload_n hx hb dX12_reaches_2 rfl (lv_at hl 1 rfl) ?_
  have hPc := hP.sub (ws' := [(m0, .inr (12, mM kd gw fa gM 0 0 0 0 0 0 0 0 th))]) [0] rfl
  have hDc := hD.sub (ws' := [(m0, .inr (12, mM kd gw fa gM 0 0 0 0 0 0 0 0 th))]) [0] (by decide) rfl
  have hKc := hK.sub (tys' := []) [] rfl
  have hFc := roF hS hA
  refine va_calli (va_runV (As := [.int a0]) (rest := [.ref m0]) ⟨hx, hb, hml, hown, hts⟩ (c_X12_isBox l dC dI s.heap.size m0 kd gw fa gM th a0) (cwV 1 hts (gV u_1415 u_1417 v_46 u_14 u_1418) rfl rfl rfl (by decide +kernel) ⟨Nat.le_of_ble_eq_true rfl, Nat.le_of_ble_eq_true rfl⟩) ⟨gP_blind, va_recv hKc hPc (ci := 12) (q0 := 0) rfl rfl, gP_call hPc hKc hDc hE⟩ rfl rfl hl.1 rfl (lv_room (Nat.le_of_ble_eq_true rfl)) dX12_reaches_3 ⟨(Nat.le_of_ble_eq_true rfl), (Nat.le_of_ble_eq_true rfl)⟩) hS (fun q _ h => hFc q h) hFc (fun r160 u9 t9 H159 locs ht hvm hw hB hz1 hk1 hS => ?_)
  have hP := roP hP hk1
  subst hw
  refine lv_if_eq (tgt := 17) hx hb dX12_reaches_6 (by decide) (fun _ => ?_) (fun h9 => absurd (by decide) h9)
  refine lv_iconst (v := 1) hx hb dX12_reaches_17 (by decide) ?_
  refine lv_goto (tgt := 35) hx hb dX12_reaches_18 (by decide) ?_
  have hPc := hP.sub (ws' := [(m0, .inr (12, mM kd gw fa gM 0 0 0 0 0 0 0 0 th))]) [0] rfl
  have hDc := hD.sub (ws' := [(m0, .inr (12, mM kd gw fa gM 0 0 0 0 0 0 0 0 th))]) [0] (by decide) rfl
  have hKc := hK.sub (tys' := []) [] rfl
  have hFc := va_free (wc := [(m0, .inr (12, mM kd gw fa gM 0 0 0 0 0 0 0 0 th))]) hD hS hA [0] rfl
  refine va_calli (va_runV (As := [.int 1]) (rest := []) ⟨hx, hb, hml, hown, hts⟩ (c_X12_can l dC dI H159.size m0 kd gw fa gM th 1) (cwV 1 hts (gV u_1403 u_1405 v_44 u_14 u_1406) rfl rfl rfl (by decide +kernel) ⟨Nat.le_of_ble_eq_true rfl, Nat.le_of_ble_eq_true rfl⟩) ⟨gP_blind, va_recv hKc hPc (ci := 12) (q0 := 0) rfl rfl, gP_call hPc hKc hDc hE⟩ rfl rfl hl.1 rfl (lv_room (Nat.le_of_ble_eq_true rfl)) dX12_reaches_35 ⟨(Nat.le_of_ble_eq_true rfl), (Nat.le_of_ble_eq_true rfl)⟩) hS (fun q _ h => hFc q h) hFc (fun r162 u9 t9 H161 locs ht hvm hw hB hz1 hk1 hS => ?_)
  obtain ⟨hP1, hK1, hD1⟩ := hB
  rw [ht] at hP1
  have hK1 := va_K.moved hvm.symm hK1
  obtain ⟨hP, hD⟩ := va_join (wr := []) (w1 := [(m0, .inr (12, mM kd gw fa gM 0 0 0 0 0 0 0 0 1))]) hP hD [0] [] rfl rfl (by decide) (by decide) hk1 hFc hP1 hD1
  have hK := (hK.sub (tys' := []) [] rfl).app hK1
  have hK : va_K (dC, dI) vwCl [] s := hK
  have hP : va_P (dC, dI) vwCl [(m0, .inr (12, mM kd gw fa gM 0 0 0 0 0 0 0 0 1))] H161 := hP
  have hD : va_D A [(m0, .inr (12, mM kd gw fa gM 0 0 0 0 0 0 0 0 1))] := hD
  subst hw
  rw [show gCan 1 = 0 from by decide]
  refine lv_if_ne (tgt := 43) hx hb dX12_reaches_38 (by decide) (fun h9 => absurd (by decide) h9) (fun _ => ?_)
  refine lv_iconst (v := 0) hx hb dX12_reaches_41 (by decide) ?_
  refine W.widen (k := 0) (n := 0) (Nat.le_of_ble_eq_true rfl) (Nat.le_of_ble_eq_true rfl) ?_
  exact W.iret (v := 0) hx hb hr (fun t ht hW => ⟨⟨0, (), rfl, rfl, ⟨by rw [ht]; exact hP, va_K.moved hW.alike hK, hD⟩⟩, hS.F ht⟩) hS.2.2 dX12_reaches_42
set_option maxHeartbeats 4000000 in
set_option maxRecDepth 100000 in
theorem c_X12_cable (l : Launch) (dC : Nat → ClassId) (dI : Nat → Nat → Nat) (sz : Nat) (m0 : Nat) (kd : Nat) (gw : Nat) (fa : Nat) (gM : Nat → Nat) (th : Int32) (a0 : Int32) (a1 : Int32) : Met l yX12_cable (Cond.code yX12_cable cX12_cable 4 (some .int) :: gU) ({ frames := 3, cells := 0, slots := 0, locals := 64 }) (gP dC dI sz [(m0, .inr (12, mM kd gw fa gM 0 0 0 0 0 0 0 0 th))] [] [.ref m0, .int a0, .int a1]) (va_Qi (fun (r : Int32) (_ : Unit) => r = 0) (fun (_ : Unit) (t9 : State) => va_P (dC, dI) vwCl [(m0, .inr (12, mM kd gw fa gM 0 0 0 0 0 0 0 0 1))] t9.heap ∧ va_K (dC, dI) vwCl [] t9 ∧ va_D (va_A [(m0, .inr (12, mM kd gw fa gM 0 0 0 0 0 0 0 0 th))] sz) [(m0, .inr (12, mM kd gw fa gM 0 0 0 0 0 0 0 0 1))]) (va_A [(m0, .inr (12, mM kd gw fa gM 0 0 0 0 0 0 0 0 th))] sz)) 0 0 (va_A [(m0, .inr (12, mM kd gw fa gM 0 0 0 0 0 0 0 0 th))] sz) := by
  refine Met.ofW (cc := cX12_cable) (maxL := 4) (ret := (some .int)) (by decide) rfl ?_
  intro p e s m args below meth c s₁ B hml hv
  obtain ⟨rfl, hsz, hP, hK, hD0, hE⟩ := hv
  have hx := B.exec
  have hb := B.bytes
  have hr := B.returns
  have hts0 := atoms_spec (ws := Cond.code yX12_cable cX12_cable 4 (some .int) :: gU) B.pre
  have hts : ∀ w ∈ gU, w.before _ s = true := fun w h => hts0 w (List.mem_cons_of_mem _ h)
  have hown : s.vm.findClass RX12 = some m.cls := findClass_of_methodNamed B.named
  have hlocks := B.notSynchronized
  subst hsz
  have hD := hD0.self (sz := s.heap.size)
  generalize hAe : va_A [(m0, .inr (12, mM kd gw fa gM 0 0 0 0 0 0 0 0 th))] s.heap.size = A at hD ⊢
  have hA : ∀ q : Nat, s.heap.size ≤ q → A q := fun q h => by rw [← hAe]; exact Or.inr h
  have hS : va_S A s.heap s.heap [] := va_S.rf
  have hP : va_P (dC, dI) vwCl [(m0, .inr (12, mM kd gw fa gM 0 0 0 0 0 0 0 0 th))] s.heap := hP
  have hl := lv_entry ([.ref m0, .int a0, .int a1]) (n := 4) (Nat.le_of_ble_eq_true rfl)
  rw [lg_entry_eq]
  generalize (lg_sl ([.ref m0, .int a0, .int a1]) ++ List.replicate (4 - (lg_sl ([.ref m0, .int a0, .int a1])).length) Slot.unset).toArray = ls at hl ⊢
  have hl : lv_has ls 4 [(0, .ref m0), (1, .int a0), (2, .int a1)] := hl
  refine lv_aload_n hx hb dX12_cable_0 rfl (lv_at hl 0 rfl) ?_
  refine lv_iload_n hx hb dX12_cable_1 rfl (lv_at hl 1 rfl) ?_
  have hPc := hP.sub (ws' := [(m0, .inr (12, mM kd gw fa gM 0 0 0 0 0 0 0 0 th))]) [0] rfl
  have hDc := hD.sub (ws' := [(m0, .inr (12, mM kd gw fa gM 0 0 0 0 0 0 0 0 th))]) [0] (by decide) rfl
  have hKc := hK.sub (tys' := []) [] rfl
  have hFc := roF hS hA
  refine va_calli (va_runV (As := [.int a0]) (rest := []) ⟨hx, hb, hml, hown, hts⟩ (c_X12_isPort l dC dI s.heap.size m0 kd gw fa gM th a0) (cwV 1 hts (gV u_1411 u_1413 v_45 u_14 u_1414) rfl rfl rfl (by decide +kernel) ⟨Nat.le_of_ble_eq_true rfl, Nat.le_of_ble_eq_true rfl⟩) ⟨gP_blind, va_recv hKc hPc (ci := 12) (q0 := 0) rfl rfl, gP_call hPc hKc hDc hE⟩ rfl rfl hl.1 rfl (lv_room (Nat.le_of_ble_eq_true rfl)) dX12_cable_2 ⟨(Nat.le_of_ble_eq_true rfl), (Nat.le_of_ble_eq_true rfl)⟩) hS (fun q _ h => hFc q h) hFc (fun r164 u9 t9 H163 locs ht hvm hw hB hz1 hk1 hS => ?_)
  have hP := roP hP hk1
  subst hw
  refine lv_if_eq (tgt := 20) hx hb dX12_cable_5 (by decide) (fun _ => ?_) (fun h9 => absurd (by decide) h9)
  refine lv_iconst (v := 0) hx hb dX12_cable_20 (by decide) ?_
  refine lv_istore_n (lv' := [(3, .int 0), (0, .ref m0), (1, .int a0), (2, .int a1)]) hx hb dX12_cable_21 rfl hl (by decide) rfl (fun ls hl => ?_)
  refine lv_aload_n hx hb dX12_cable_22 rfl (lv_at hl 1 rfl) ?_
  refine lv_iload_n hx hb dX12_cable_23 rfl (lv_at hl 0 rfl) ?_
  refine lv_if_ne (tgt := 31) hx hb dX12_cable_24 (by decide) (fun h9 => absurd (by decide) h9) (fun _ => ?_)
  refine lv_iconst (v := 1) hx hb dX12_cable_27 (by decide) ?_
  refine lv_goto (tgt := 78) hx hb dX12_cable_28 (by decide) ?_
  have hPc := hP.sub (ws' := [(m0, .inr (12, mM kd gw fa gM 0 0 0 0 0 0 0 0 th))]) [0] rfl
  have hDc := hD.sub (ws' := [(m0, .inr (12, mM kd gw fa gM 0 0 0 0 0 0 0 0 th))]) [0] (by decide) rfl
  have hKc := hK.sub (tys' := []) [] rfl
  have hFc := va_free (wc := [(m0, .inr (12, mM kd gw fa gM 0 0 0 0 0 0 0 0 th))]) hD hS hA [0] rfl
  refine va_calli (va_runV (As := [.int 1]) (rest := []) ⟨hx, hb, hml, hown, hts⟩ (c_X12_can l dC dI H163.size m0 kd gw fa gM th 1) (cwV 1 hts (gV u_1403 u_1405 v_44 u_14 u_1406) rfl rfl rfl (by decide +kernel) ⟨Nat.le_of_ble_eq_true rfl, Nat.le_of_ble_eq_true rfl⟩) ⟨gP_blind, va_recv hKc hPc (ci := 12) (q0 := 0) rfl rfl, gP_call hPc hKc hDc hE⟩ rfl rfl hl.1 rfl (lv_room (Nat.le_of_ble_eq_true rfl)) dX12_cable_78 ⟨(Nat.le_of_ble_eq_true rfl), (Nat.le_of_ble_eq_true rfl)⟩) hS (fun q _ h => hFc q h) hFc (fun r166 u9 t9 H165 locs ht hvm hw hB hz1 hk1 hS => ?_)
  obtain ⟨hP1, hK1, hD1⟩ := hB
  rw [ht] at hP1
  have hK1 := va_K.moved hvm.symm hK1
  obtain ⟨hP, hD⟩ := va_join (wr := []) (w1 := [(m0, .inr (12, mM kd gw fa gM 0 0 0 0 0 0 0 0 1))]) hP hD [0] [] rfl rfl (by decide) (by decide) hk1 hFc hP1 hD1
  have hK := (hK.sub (tys' := []) [] rfl).app hK1
  have hK : va_K (dC, dI) vwCl [] s := hK
  have hP : va_P (dC, dI) vwCl [(m0, .inr (12, mM kd gw fa gM 0 0 0 0 0 0 0 0 1))] H165 := hP
  have hD : va_D A [(m0, .inr (12, mM kd gw fa gM 0 0 0 0 0 0 0 0 1))] := hD
  subst hw
  rw [show gCan 1 = 0 from by decide]
  refine lv_if_ne (tgt := 86) hx hb dX12_cable_81 (by decide) (fun h9 => absurd (by decide) h9) (fun _ => ?_)
  refine lv_iconst (v := 0) hx hb dX12_cable_84 (by decide) ?_
  refine W.widen (k := 0) (n := 0) (Nat.le_of_ble_eq_true rfl) (Nat.le_of_ble_eq_true rfl) ?_
  exact W.iret (v := 0) hx hb hr (fun t ht hW => ⟨⟨0, (), rfl, rfl, ⟨by rw [ht]; exact hP, va_K.moved hW.alike hK, hD⟩⟩, hS.F ht⟩) hS.2.2 dX12_cable_85
set_option maxHeartbeats 4000000 in
set_option maxRecDepth 100000 in
theorem c_X12_turn (l : Launch) (dC : Nat → ClassId) (dI : Nat → Nat → Nat) (sz : Nat) (m0 : Nat) (kd : Nat) (gw : Nat) (fa : Nat) (gM : Nat → Nat) (th : Int32) (a0 : Int32) : Met l yX12_turn (Cond.code yX12_turn cX12_turn 2 (some .boolean) :: gU) ({ frames := 2, cells := 0, slots := 0, locals := 43 }) (gP dC dI sz [(m0, .inr (12, mM kd gw fa gM 0 0 0 0 0 0 0 0 th))] [] [.ref m0, .int a0]) (va_Qi (fun (r : Int32) (_ : Unit) => r = 0) (fun (_ : Unit) (t9 : State) => va_P (dC, dI) vwCl [(m0, .inr (12, mM kd gw fa gM 0 0 0 0 0 0 0 0 1))] t9.heap ∧ va_K (dC, dI) vwCl [] t9 ∧ va_D (va_A [(m0, .inr (12, mM kd gw fa gM 0 0 0 0 0 0 0 0 th))] sz) [(m0, .inr (12, mM kd gw fa gM 0 0 0 0 0 0 0 0 1))]) (va_A [(m0, .inr (12, mM kd gw fa gM 0 0 0 0 0 0 0 0 th))] sz)) 0 0 (va_A [(m0, .inr (12, mM kd gw fa gM 0 0 0 0 0 0 0 0 th))] sz) := by
  refine Met.ofW (cc := cX12_turn) (maxL := 2) (ret := (some .boolean)) (by decide) rfl ?_
  intro p e s m args below meth c s₁ B hml hv
  obtain ⟨rfl, hsz, hP, hK, hD0, hE⟩ := hv
  have hx := B.exec
  have hb := B.bytes
  have hr := B.returns
  have hts0 := atoms_spec (ws := Cond.code yX12_turn cX12_turn 2 (some .boolean) :: gU) B.pre
  have hts : ∀ w ∈ gU, w.before _ s = true := fun w h => hts0 w (List.mem_cons_of_mem _ h)
  have hown : s.vm.findClass RX12 = some m.cls := findClass_of_methodNamed B.named
  have hlocks := B.notSynchronized
  subst hsz
  have hD := hD0.self (sz := s.heap.size)
  generalize hAe : va_A [(m0, .inr (12, mM kd gw fa gM 0 0 0 0 0 0 0 0 th))] s.heap.size = A at hD ⊢
  have hA : ∀ q : Nat, s.heap.size ≤ q → A q := fun q h => by rw [← hAe]; exact Or.inr h
  have hS : va_S A s.heap s.heap [] := va_S.rf
  have hP : va_P (dC, dI) vwCl [(m0, .inr (12, mM kd gw fa gM 0 0 0 0 0 0 0 0 th))] s.heap := hP
  have hl := lv_entry ([.ref m0, .int a0]) (n := 2) (Nat.le_of_ble_eq_true rfl)
  rw [lg_entry_eq]
  generalize (lg_sl ([.ref m0, .int a0]) ++ List.replicate (2 - (lg_sl ([.ref m0, .int a0])).length) Slot.unset).toArray = ls at hl ⊢
  have hl : lv_has ls 2 [(0, .ref m0), (1, .int a0)] := hl
  refine lv_aload_n hx hb dX12_turn_0 rfl (lv_at hl 0 rfl) ?_
  refine lv_aload_n hx hb dX12_turn_1 rfl (lv_at hl 0 rfl) ?_
  refine lv_iload_n hx hb dX12_turn_2 rfl (lv_at hl 1 rfl) ?_
  have hPc := hP.sub (ws' := [(m0, .inr (12, mM kd gw fa gM 0 0 0 0 0 0 0 0 th))]) [0] rfl
  have hDc := hD.sub (ws' := [(m0, .inr (12, mM kd gw fa gM 0 0 0 0 0 0 0 0 th))]) [0] (by decide) rfl
  have hKc := hK.sub (tys' := []) [] rfl
  have hFc := roF hS hA
  refine va_calli (va_runV (As := [.int a0]) (rest := [.ref m0]) ⟨hx, hb, hml, hown, hts⟩ (c_X12_isCable l dC dI s.heap.size m0 kd gw fa gM th a0) (cwV 1 hts (gV u_1423 u_1425 v_47 u_14 u_1426) rfl rfl rfl (by decide +kernel) ⟨Nat.le_of_ble_eq_true rfl, Nat.le_of_ble_eq_true rfl⟩) ⟨gP_blind, va_recv hKc hPc (ci := 12) (q0 := 0) rfl rfl, gP_call hPc hKc hDc hE⟩ rfl rfl hl.1 rfl (lv_room (Nat.le_of_ble_eq_true rfl)) dX12_turn_3 ⟨(Nat.le_of_ble_eq_true rfl), (Nat.le_of_ble_eq_true rfl)⟩) hS (fun q _ h => hFc q h) hFc (fun r168 u9 t9 H167 locs ht hvm hw hB hz1 hk1 hS => ?_)
  have hP := roP hP hk1
  subst hw
  refine lv_if_eq (tgt := 13) hx hb dX12_turn_6 (by decide) (fun _ => ?_) (fun h9 => absurd (by decide) h9)
  refine lv_iconst (v := 1) hx hb dX12_turn_13 (by decide) ?_
  have hPc := hP.sub (ws' := [(m0, .inr (12, mM kd gw fa gM 0 0 0 0 0 0 0 0 th))]) [0] rfl
  have hDc := hD.sub (ws' := [(m0, .inr (12, mM kd gw fa gM 0 0 0 0 0 0 0 0 th))]) [0] (by decide) rfl
  have hKc := hK.sub (tys' := []) [] rfl
  have hFc := va_free (wc := [(m0, .inr (12, mM kd gw fa gM 0 0 0 0 0 0 0 0 th))]) hD hS hA [0] rfl
  refine va_calli (va_runV (As := [.int 1]) (rest := []) ⟨hx, hb, hml, hown, hts⟩ (c_X12_can l dC dI H167.size m0 kd gw fa gM th 1) (cwV 1 hts (gV u_1403 u_1405 v_44 u_14 u_1406) rfl rfl rfl (by decide +kernel) ⟨Nat.le_of_ble_eq_true rfl, Nat.le_of_ble_eq_true rfl⟩) ⟨gP_blind, va_recv hKc hPc (ci := 12) (q0 := 0) rfl rfl, gP_call hPc hKc hDc hE⟩ rfl rfl hl.1 rfl (lv_room (Nat.le_of_ble_eq_true rfl)) dX12_turn_14 ⟨(Nat.le_of_ble_eq_true rfl), (Nat.le_of_ble_eq_true rfl)⟩) hS (fun q _ h => hFc q h) hFc (fun r170 u9 t9 H169 locs ht hvm hw hB hz1 hk1 hS => ?_)
  obtain ⟨hP1, hK1, hD1⟩ := hB
  rw [ht] at hP1
  have hK1 := va_K.moved hvm.symm hK1
  obtain ⟨hP, hD⟩ := va_join (wr := []) (w1 := [(m0, .inr (12, mM kd gw fa gM 0 0 0 0 0 0 0 0 1))]) hP hD [0] [] rfl rfl (by decide) (by decide) hk1 hFc hP1 hD1
  have hK := (hK.sub (tys' := []) [] rfl).app hK1
  have hK : va_K (dC, dI) vwCl [] s := hK
  have hP : va_P (dC, dI) vwCl [(m0, .inr (12, mM kd gw fa gM 0 0 0 0 0 0 0 0 1))] H169 := hP
  have hD : va_D A [(m0, .inr (12, mM kd gw fa gM 0 0 0 0 0 0 0 0 1))] := hD
  subst hw
  rw [show gCan 1 = 0 from by decide]
  refine lv_if_ne (tgt := 22) hx hb dX12_turn_17 (by decide) (fun h9 => absurd (by decide) h9) (fun _ => ?_)
  refine lv_iconst (v := 0) hx hb dX12_turn_20 (by decide) ?_
  refine W.widen (k := 0) (n := 0) (Nat.le_of_ble_eq_true rfl) (Nat.le_of_ble_eq_true rfl) ?_
  exact W.zret (v := 0) hx hb hr (by decide) (fun t ht hW => ⟨⟨0, (), rfl, rfl, ⟨by rw [ht]; exact hP, va_K.moved hW.alike hK, hD⟩⟩, hS.F ht⟩) hS.2.2 dX12_turn_21
set_option maxHeartbeats 4000000 in
set_option maxRecDepth 100000 in
theorem c_X12_isBlocked (l : Launch) (dC : Nat → ClassId) (dI : Nat → Nat → Nat) (sz : Nat) (m0 : Nat) (kd : Nat) (gw : Nat) (fa : Nat) (gM : Nat → Nat) (th : Int32) (a0 : Int32) : Met l yX12_isBlocked (Cond.code yX12_isBlocked cX12_isBlocked 2 (some .boolean) :: gU) ({ frames := 2, cells := 0, slots := 0, locals := 43 }) (gP dC dI sz [(m0, .inr (12, mM kd gw fa gM 0 0 0 0 0 0 0 0 th))] [] [.ref m0, .int a0]) (va_Qi (fun (r : Int32) (_ : Unit) => r = 0) (fun (_ : Unit) (t9 : State) => va_P (dC, dI) vwCl [(m0, .inr (12, mM kd gw fa gM 0 0 0 0 0 0 0 0 1))] t9.heap ∧ va_K (dC, dI) vwCl [] t9 ∧ va_D (va_A [(m0, .inr (12, mM kd gw fa gM 0 0 0 0 0 0 0 0 th))] sz) [(m0, .inr (12, mM kd gw fa gM 0 0 0 0 0 0 0 0 1))]) (va_A [(m0, .inr (12, mM kd gw fa gM 0 0 0 0 0 0 0 0 th))] sz)) 0 0 (va_A [(m0, .inr (12, mM kd gw fa gM 0 0 0 0 0 0 0 0 th))] sz) := by
  refine Met.ofW (cc := cX12_isBlocked) (maxL := 2) (ret := (some .boolean)) (by decide) rfl ?_
  intro p e s m args below meth c s₁ B hml hv
  obtain ⟨rfl, hsz, hP, hK, hD0, hE⟩ := hv
  have hx := B.exec
  have hb := B.bytes
  have hr := B.returns
  have hts0 := atoms_spec (ws := Cond.code yX12_isBlocked cX12_isBlocked 2 (some .boolean) :: gU) B.pre
  have hts : ∀ w ∈ gU, w.before _ s = true := fun w h => hts0 w (List.mem_cons_of_mem _ h)
  have hown : s.vm.findClass RX12 = some m.cls := findClass_of_methodNamed B.named
  have hlocks := B.notSynchronized
  subst hsz
  have hD := hD0.self (sz := s.heap.size)
  generalize hAe : va_A [(m0, .inr (12, mM kd gw fa gM 0 0 0 0 0 0 0 0 th))] s.heap.size = A at hD ⊢
  have hA : ∀ q : Nat, s.heap.size ≤ q → A q := fun q h => by rw [← hAe]; exact Or.inr h
  have hS : va_S A s.heap s.heap [] := va_S.rf
  have hP : va_P (dC, dI) vwCl [(m0, .inr (12, mM kd gw fa gM 0 0 0 0 0 0 0 0 th))] s.heap := hP
  have hl := lv_entry ([.ref m0, .int a0]) (n := 2) (Nat.le_of_ble_eq_true rfl)
  rw [lg_entry_eq]
  generalize (lg_sl ([.ref m0, .int a0]) ++ List.replicate (2 - (lg_sl ([.ref m0, .int a0])).length) Slot.unset).toArray = ls at hl ⊢
  have hl : lv_has ls 2 [(0, .ref m0), (1, .int a0)] := hl
  refine lv_aload_n hx hb dX12_isBlocked_0 rfl (lv_at hl 0 rfl) ?_
  refine lv_aload_n hx hb dX12_isBlocked_1 rfl (lv_at hl 0 rfl) ?_
  refine lv_iload_n hx hb dX12_isBlocked_2 rfl (lv_at hl 1 rfl) ?_
  have hPc := hP.sub (ws' := [(m0, .inr (12, mM kd gw fa gM 0 0 0 0 0 0 0 0 th))]) [0] rfl
  have hDc := hD.sub (ws' := [(m0, .inr (12, mM kd gw fa gM 0 0 0 0 0 0 0 0 th))]) [0] (by decide) rfl
  have hKc := hK.sub (tys' := []) [] rfl
  have hFc := roF hS hA
  refine va_calli (va_runV (As := [.int a0]) (rest := [.ref m0]) ⟨hx, hb, hml, hown, hts⟩ (c_X12_isCable l dC dI s.heap.size m0 kd gw fa gM th a0) (cwV 1 hts (gV u_1423 u_1425 v_47 u_14 u_1426) rfl rfl rfl (by decide +kernel) ⟨Nat.le_of_ble_eq_true rfl, Nat.le_of_ble_eq_true rfl⟩) ⟨gP_blind, va_recv hKc hPc (ci := 12) (q0 := 0) rfl rfl, gP_call hPc hKc hDc hE⟩ rfl rfl hl.1 rfl (lv_room (Nat.le_of_ble_eq_true rfl)) dX12_isBlocked_3 ⟨(Nat.le_of_ble_eq_true rfl), (Nat.le_of_ble_eq_true rfl)⟩) hS (fun q _ h => hFc q h) hFc (fun r172 u9 t9 H171 locs ht hvm hw hB hz1 hk1 hS => ?_)
  have hP := roP hP hk1
  subst hw
  refine lv_if_eq (tgt := 13) hx hb dX12_isBlocked_6 (by decide) (fun _ => ?_) (fun h9 => absurd (by decide) h9)
  refine lv_iconst (v := 1) hx hb dX12_isBlocked_13 (by decide) ?_
  have hPc := hP.sub (ws' := [(m0, .inr (12, mM kd gw fa gM 0 0 0 0 0 0 0 0 th))]) [0] rfl
  have hDc := hD.sub (ws' := [(m0, .inr (12, mM kd gw fa gM 0 0 0 0 0 0 0 0 th))]) [0] (by decide) rfl
  have hKc := hK.sub (tys' := []) [] rfl
  have hFc := va_free (wc := [(m0, .inr (12, mM kd gw fa gM 0 0 0 0 0 0 0 0 th))]) hD hS hA [0] rfl
  refine va_calli (va_runV (As := [.int 1]) (rest := []) ⟨hx, hb, hml, hown, hts⟩ (c_X12_can l dC dI H171.size m0 kd gw fa gM th 1) (cwV 1 hts (gV u_1403 u_1405 v_44 u_14 u_1406) rfl rfl rfl (by decide +kernel) ⟨Nat.le_of_ble_eq_true rfl, Nat.le_of_ble_eq_true rfl⟩) ⟨gP_blind, va_recv hKc hPc (ci := 12) (q0 := 0) rfl rfl, gP_call hPc hKc hDc hE⟩ rfl rfl hl.1 rfl (lv_room (Nat.le_of_ble_eq_true rfl)) dX12_isBlocked_14 ⟨(Nat.le_of_ble_eq_true rfl), (Nat.le_of_ble_eq_true rfl)⟩) hS (fun q _ h => hFc q h) hFc (fun r174 u9 t9 H173 locs ht hvm hw hB hz1 hk1 hS => ?_)
  obtain ⟨hP1, hK1, hD1⟩ := hB
  rw [ht] at hP1
  have hK1 := va_K.moved hvm.symm hK1
  obtain ⟨hP, hD⟩ := va_join (wr := []) (w1 := [(m0, .inr (12, mM kd gw fa gM 0 0 0 0 0 0 0 0 1))]) hP hD [0] [] rfl rfl (by decide) (by decide) hk1 hFc hP1 hD1
  have hK := (hK.sub (tys' := []) [] rfl).app hK1
  have hK : va_K (dC, dI) vwCl [] s := hK
  have hP : va_P (dC, dI) vwCl [(m0, .inr (12, mM kd gw fa gM 0 0 0 0 0 0 0 0 1))] H173 := hP
  have hD : va_D A [(m0, .inr (12, mM kd gw fa gM 0 0 0 0 0 0 0 0 1))] := hD
  subst hw
  rw [show gCan 1 = 0 from by decide]
  refine lv_if_ne (tgt := 22) hx hb dX12_isBlocked_17 (by decide) (fun h9 => absurd (by decide) h9) (fun _ => ?_)
  refine lv_iconst (v := 0) hx hb dX12_isBlocked_20 (by decide) ?_
  refine W.widen (k := 0) (n := 0) (Nat.le_of_ble_eq_true rfl) (Nat.le_of_ble_eq_true rfl) ?_
  exact W.zret (v := 0) hx hb hr (by decide) (fun t ht hW => ⟨⟨0, (), rfl, rfl, ⟨by rw [ht]; exact hP, va_K.moved hW.alike hK, hD⟩⟩, hS.F ht⟩) hS.2.2 dX12_isBlocked_21
set_option maxHeartbeats 4000000 in
set_option maxRecDepth 100000 in
theorem c_X12_net (l : Launch) (dC : Nat → ClassId) (dI : Nat → Nat → Nat) (sz : Nat) (m0 : Nat) (kd : Nat) (gw : Nat) (fa : Nat) (gM : Nat → Nat) (th : Int32) (a0 : Int32) (a1 : Int32) : Met l yX12_net (Cond.code yX12_net cX12_net 5 (some .int) :: gU) ({ frames := 3, cells := 0, slots := 0, locals := 64 }) (gP dC dI sz [(m0, .inr (12, mM kd gw fa gM 0 0 0 0 0 0 0 0 th))] [] [.ref m0, .int a0, .int a1]) (va_Qi (fun (r : Int32) (_ : Unit) => r = 0) (fun (_ : Unit) (t9 : State) => va_P (dC, dI) vwCl [(m0, .inr (12, mM kd gw fa gM 0 0 0 0 0 0 0 0 1))] t9.heap ∧ va_K (dC, dI) vwCl [] t9 ∧ va_D (va_A [(m0, .inr (12, mM kd gw fa gM 0 0 0 0 0 0 0 0 th))] sz) [(m0, .inr (12, mM kd gw fa gM 0 0 0 0 0 0 0 0 1))]) (va_A [(m0, .inr (12, mM kd gw fa gM 0 0 0 0 0 0 0 0 th))] sz)) 0 0 (va_A [(m0, .inr (12, mM kd gw fa gM 0 0 0 0 0 0 0 0 th))] sz) := by
  refine Met.ofW (cc := cX12_net) (maxL := 5) (ret := (some .int)) (by decide) rfl ?_
  intro p e s m args below meth c s₁ B hml hv
  obtain ⟨rfl, hsz, hP, hK, hD0, hE⟩ := hv
  have hx := B.exec
  have hb := B.bytes
  have hr := B.returns
  have hts0 := atoms_spec (ws := Cond.code yX12_net cX12_net 5 (some .int) :: gU) B.pre
  have hts : ∀ w ∈ gU, w.before _ s = true := fun w h => hts0 w (List.mem_cons_of_mem _ h)
  have hown : s.vm.findClass RX12 = some m.cls := findClass_of_methodNamed B.named
  have hlocks := B.notSynchronized
  subst hsz
  have hD := hD0.self (sz := s.heap.size)
  generalize hAe : va_A [(m0, .inr (12, mM kd gw fa gM 0 0 0 0 0 0 0 0 th))] s.heap.size = A at hD ⊢
  have hA : ∀ q : Nat, s.heap.size ≤ q → A q := fun q h => by rw [← hAe]; exact Or.inr h
  have hS : va_S A s.heap s.heap [] := va_S.rf
  have hP : va_P (dC, dI) vwCl [(m0, .inr (12, mM kd gw fa gM 0 0 0 0 0 0 0 0 th))] s.heap := hP
  have hl := lv_entry ([.ref m0, .int a0, .int a1]) (n := 5) (Nat.le_of_ble_eq_true rfl)
  rw [lg_entry_eq]
  generalize (lg_sl ([.ref m0, .int a0, .int a1]) ++ List.replicate (5 - (lg_sl ([.ref m0, .int a0, .int a1])).length) Slot.unset).toArray = ls at hl ⊢
  have hl : lv_has ls 5 [(0, .ref m0), (1, .int a0), (2, .int a1)] := hl
  refine lv_aload_n hx hb dX12_net_0 rfl (lv_at hl 0 rfl) ?_
  refine lv_iload_n hx hb dX12_net_1 rfl (lv_at hl 1 rfl) ?_
  have hPc := hP.sub (ws' := [(m0, .inr (12, mM kd gw fa gM 0 0 0 0 0 0 0 0 th))]) [0] rfl
  have hDc := hD.sub (ws' := [(m0, .inr (12, mM kd gw fa gM 0 0 0 0 0 0 0 0 th))]) [0] (by decide) rfl
  have hKc := hK.sub (tys' := []) [] rfl
  have hFc := roF hS hA
  refine va_calli (va_runV (As := [.int a0]) (rest := []) ⟨hx, hb, hml, hown, hts⟩ (c_X12_isPort l dC dI s.heap.size m0 kd gw fa gM th a0) (cwV 1 hts (gV u_1411 u_1413 v_45 u_14 u_1414) rfl rfl rfl (by decide +kernel) ⟨Nat.le_of_ble_eq_true rfl, Nat.le_of_ble_eq_true rfl⟩) ⟨gP_blind, va_recv hKc hPc (ci := 12) (q0 := 0) rfl rfl, gP_call hPc hKc hDc hE⟩ rfl rfl hl.1 rfl (lv_room (Nat.le_of_ble_eq_true rfl)) dX12_net_2 ⟨(Nat.le_of_ble_eq_true rfl), (Nat.le_of_ble_eq_true rfl)⟩) hS (fun q _ h => hFc q h) hFc (fun r176 u9 t9 H175 locs ht hvm hw hB hz1 hk1 hS => ?_)
  have hP := roP hP hk1
  subst hw
  refine lv_istore_n (lv' := [(3, .int 0), (0, .ref m0), (1, .int a0), (2, .int a1)]) hx hb dX12_net_5 rfl hl (by decide) rfl (fun ls hl => ?_)
  refine lv_aload_n hx hb dX12_net_6 rfl (lv_at hl 1 rfl) ?_
  refine lv_iload_n hx hb dX12_net_7 rfl (lv_at hl 0 rfl) ?_
  refine lv_if_ne (tgt := 15) hx hb dX12_net_8 (by decide) (fun h9 => absurd (by decide) h9) (fun _ => ?_)
  refine lv_iconst (v := 1) hx hb dX12_net_11 (by decide) ?_
  refine lv_goto (tgt := 38) hx hb dX12_net_12 (by decide) ?_
  have hPc := hP.sub (ws' := [(m0, .inr (12, mM kd gw fa gM 0 0 0 0 0 0 0 0 th))]) [0] rfl
  have hDc := hD.sub (ws' := [(m0, .inr (12, mM kd gw fa gM 0 0 0 0 0 0 0 0 th))]) [0] (by decide) rfl
  have hKc := hK.sub (tys' := []) [] rfl
  have hFc := va_free (wc := [(m0, .inr (12, mM kd gw fa gM 0 0 0 0 0 0 0 0 th))]) hD hS hA [0] rfl
  refine va_calli (va_runV (As := [.int 1]) (rest := []) ⟨hx, hb, hml, hown, hts⟩ (c_X12_can l dC dI H175.size m0 kd gw fa gM th 1) (cwV 1 hts (gV u_1403 u_1405 v_44 u_14 u_1406) rfl rfl rfl (by decide +kernel) ⟨Nat.le_of_ble_eq_true rfl, Nat.le_of_ble_eq_true rfl⟩) ⟨gP_blind, va_recv hKc hPc (ci := 12) (q0 := 0) rfl rfl, gP_call hPc hKc hDc hE⟩ rfl rfl hl.1 rfl (lv_room (Nat.le_of_ble_eq_true rfl)) dX12_net_38 ⟨(Nat.le_of_ble_eq_true rfl), (Nat.le_of_ble_eq_true rfl)⟩) hS (fun q _ h => hFc q h) hFc (fun r178 u9 t9 H177 locs ht hvm hw hB hz1 hk1 hS => ?_)
  obtain ⟨hP1, hK1, hD1⟩ := hB
  rw [ht] at hP1
  have hK1 := va_K.moved hvm.symm hK1
  obtain ⟨hP, hD⟩ := va_join (wr := []) (w1 := [(m0, .inr (12, mM kd gw fa gM 0 0 0 0 0 0 0 0 1))]) hP hD [0] [] rfl rfl (by decide) (by decide) hk1 hFc hP1 hD1
  have hK := (hK.sub (tys' := []) [] rfl).app hK1
  have hK : va_K (dC, dI) vwCl [] s := hK
  have hP : va_P (dC, dI) vwCl [(m0, .inr (12, mM kd gw fa gM 0 0 0 0 0 0 0 0 1))] H177 := hP
  have hD : va_D A [(m0, .inr (12, mM kd gw fa gM 0 0 0 0 0 0 0 0 1))] := hD
  subst hw
  rw [show gCan 1 = 0 from by decide]
  refine lv_if_ne (tgt := 46) hx hb dX12_net_41 (by decide) (fun h9 => absurd (by decide) h9) (fun _ => ?_)
  refine lv_iconst (v := 0) hx hb dX12_net_44 (by decide) ?_
  refine W.widen (k := 0) (n := 0) (Nat.le_of_ble_eq_true rfl) (Nat.le_of_ble_eq_true rfl) ?_
  exact W.iret (v := 0) hx hb hr (fun t ht hW => ⟨⟨0, (), rfl, rfl, ⟨by rw [ht]; exact hP, va_K.moved hW.alike hK, hD⟩⟩, hS.F ht⟩) hS.2.2 dX12_net_45
set_option maxHeartbeats 4000000 in
set_option maxRecDepth 100000 in
theorem c_X12_sees (l : Launch) (dC : Nat → ClassId) (dI : Nat → Nat → Nat) (sz : Nat) (m0 : Nat) (kd : Nat) (gw : Nat) (fa : Nat) (gM : Nat → Nat) (th : Int32) (a0 : Int32) (a1 : Int32) : Met l yX12_sees (Cond.code yX12_sees cX12_sees 4 (some .boolean) :: gU) ({ frames := 3, cells := 0, slots := 0, locals := 64 }) (gP dC dI sz [(m0, .inr (12, mM kd gw fa gM 0 0 0 0 0 0 0 0 th))] [] [.ref m0, .int a0, .int a1]) (va_Qi (fun (r : Int32) (_ : Unit) => r = 0) (fun (_ : Unit) (t9 : State) => va_P (dC, dI) vwCl [(m0, .inr (12, mM kd gw fa gM 0 0 0 0 0 0 0 0 1))] t9.heap ∧ va_K (dC, dI) vwCl [] t9 ∧ va_D (va_A [(m0, .inr (12, mM kd gw fa gM 0 0 0 0 0 0 0 0 th))] sz) [(m0, .inr (12, mM kd gw fa gM 0 0 0 0 0 0 0 0 1))]) (va_A [(m0, .inr (12, mM kd gw fa gM 0 0 0 0 0 0 0 0 th))] sz)) 0 0 (va_A [(m0, .inr (12, mM kd gw fa gM 0 0 0 0 0 0 0 0 th))] sz) := by
  refine Met.ofW (cc := cX12_sees) (maxL := 4) (ret := (some .boolean)) (by decide) rfl ?_
  intro p e s m args below meth c s₁ B hml hv
  obtain ⟨rfl, hsz, hP, hK, hD0, hE⟩ := hv
  have hx := B.exec
  have hb := B.bytes
  have hr := B.returns
  have hts0 := atoms_spec (ws := Cond.code yX12_sees cX12_sees 4 (some .boolean) :: gU) B.pre
  have hts : ∀ w ∈ gU, w.before _ s = true := fun w h => hts0 w (List.mem_cons_of_mem _ h)
  have hown : s.vm.findClass RX12 = some m.cls := findClass_of_methodNamed B.named
  have hlocks := B.notSynchronized
  subst hsz
  have hD := hD0.self (sz := s.heap.size)
  generalize hAe : va_A [(m0, .inr (12, mM kd gw fa gM 0 0 0 0 0 0 0 0 th))] s.heap.size = A at hD ⊢
  have hA : ∀ q : Nat, s.heap.size ≤ q → A q := fun q h => by rw [← hAe]; exact Or.inr h
  have hS : va_S A s.heap s.heap [] := va_S.rf
  have hP : va_P (dC, dI) vwCl [(m0, .inr (12, mM kd gw fa gM 0 0 0 0 0 0 0 0 th))] s.heap := hP
  have hl := lv_entry ([.ref m0, .int a0, .int a1]) (n := 4) (Nat.le_of_ble_eq_true rfl)
  rw [lg_entry_eq]
  generalize (lg_sl ([.ref m0, .int a0, .int a1]) ++ List.replicate (4 - (lg_sl ([.ref m0, .int a0, .int a1])).length) Slot.unset).toArray = ls at hl ⊢
  have hl : lv_has ls 4 [(0, .ref m0), (1, .int a0), (2, .int a1)] := hl
  refine lv_aload_n hx hb dX12_sees_0 rfl (lv_at hl 0 rfl) ?_
  refine lv_iload_n hx hb dX12_sees_1 rfl (lv_at hl 1 rfl) ?_
  have hPc := hP.sub (ws' := [(m0, .inr (12, mM kd gw fa gM 0 0 0 0 0 0 0 0 th))]) [0] rfl
  have hDc := hD.sub (ws' := [(m0, .inr (12, mM kd gw fa gM 0 0 0 0 0 0 0 0 th))]) [0] (by decide) rfl
  have hKc := hK.sub (tys' := []) [] rfl
  have hFc := roF hS hA
  refine va_calli (va_runV (As := [.int a0]) (rest := []) ⟨hx, hb, hml, hown, hts⟩ (c_X12_isPort l dC dI s.heap.size m0 kd gw fa gM th a0) (cwV 1 hts (gV u_1411 u_1413 v_45 u_14 u_1414) rfl rfl rfl (by decide +kernel) ⟨Nat.le_of_ble_eq_true rfl, Nat.le_of_ble_eq_true rfl⟩) ⟨gP_blind, va_recv hKc hPc (ci := 12) (q0 := 0) rfl rfl, gP_call hPc hKc hDc hE⟩ rfl rfl hl.1 rfl (lv_room (Nat.le_of_ble_eq_true rfl)) dX12_sees_2 ⟨(Nat.le_of_ble_eq_true rfl), (Nat.le_of_ble_eq_true rfl)⟩) hS (fun q _ h => hFc q h) hFc (fun r180 u9 t9 H179 locs ht hvm hw hB hz1 hk1 hS => ?_)
  have hP := roP hP hk1
  subst hw
  refine lv_if_eq (tgt := 20) hx hb dX12_sees_5 (by decide) (fun _ => ?_) (fun h9 => absurd (by decide) h9)
  refine lv_iconst (v := 0) hx hb dX12_sees_20 (by decide) ?_
  refine lv_istore_n (lv' := [(3, .int 0), (0, .ref m0), (1, .int a0), (2, .int a1)]) hx hb dX12_sees_21 rfl hl (by decide) rfl (fun ls hl => ?_)
  refine lv_aload_n hx hb dX12_sees_22 rfl (lv_at hl 1 rfl) ?_
  refine lv_iload_n hx hb dX12_sees_23 rfl (lv_at hl 0 rfl) ?_
  refine lv_if_ne (tgt := 31) hx hb dX12_sees_24 (by decide) (fun h9 => absurd (by decide) h9) (fun _ => ?_)
  refine lv_iconst (v := 1) hx hb dX12_sees_27 (by decide) ?_
  refine lv_goto (tgt := 59) hx hb dX12_sees_28 (by decide) ?_
  have hPc := hP.sub (ws' := [(m0, .inr (12, mM kd gw fa gM 0 0 0 0 0 0 0 0 th))]) [0] rfl
  have hDc := hD.sub (ws' := [(m0, .inr (12, mM kd gw fa gM 0 0 0 0 0 0 0 0 th))]) [0] (by decide) rfl
  have hKc := hK.sub (tys' := []) [] rfl
  have hFc := va_free (wc := [(m0, .inr (12, mM kd gw fa gM 0 0 0 0 0 0 0 0 th))]) hD hS hA [0] rfl
  refine va_calli (va_runV (As := [.int 1]) (rest := []) ⟨hx, hb, hml, hown, hts⟩ (c_X12_can l dC dI H179.size m0 kd gw fa gM th 1) (cwV 1 hts (gV u_1403 u_1405 v_44 u_14 u_1406) rfl rfl rfl (by decide +kernel) ⟨Nat.le_of_ble_eq_true rfl, Nat.le_of_ble_eq_true rfl⟩) ⟨gP_blind, va_recv hKc hPc (ci := 12) (q0 := 0) rfl rfl, gP_call hPc hKc hDc hE⟩ rfl rfl hl.1 rfl (lv_room (Nat.le_of_ble_eq_true rfl)) dX12_sees_59 ⟨(Nat.le_of_ble_eq_true rfl), (Nat.le_of_ble_eq_true rfl)⟩) hS (fun q _ h => hFc q h) hFc (fun r182 u9 t9 H181 locs ht hvm hw hB hz1 hk1 hS => ?_)
  obtain ⟨hP1, hK1, hD1⟩ := hB
  rw [ht] at hP1
  have hK1 := va_K.moved hvm.symm hK1
  obtain ⟨hP, hD⟩ := va_join (wr := []) (w1 := [(m0, .inr (12, mM kd gw fa gM 0 0 0 0 0 0 0 0 1))]) hP hD [0] [] rfl rfl (by decide) (by decide) hk1 hFc hP1 hD1
  have hK := (hK.sub (tys' := []) [] rfl).app hK1
  have hK : va_K (dC, dI) vwCl [] s := hK
  have hP : va_P (dC, dI) vwCl [(m0, .inr (12, mM kd gw fa gM 0 0 0 0 0 0 0 0 1))] H181 := hP
  have hD : va_D A [(m0, .inr (12, mM kd gw fa gM 0 0 0 0 0 0 0 0 1))] := hD
  subst hw
  rw [show gCan 1 = 0 from by decide]
  refine lv_if_ne (tgt := 67) hx hb dX12_sees_62 (by decide) (fun h9 => absurd (by decide) h9) (fun _ => ?_)
  refine lv_iconst (v := 0) hx hb dX12_sees_65 (by decide) ?_
  refine W.widen (k := 0) (n := 0) (Nat.le_of_ble_eq_true rfl) (Nat.le_of_ble_eq_true rfl) ?_
  exact W.zret (v := 0) hx hb hr (by decide) (fun t ht hW => ⟨⟨0, (), rfl, rfl, ⟨by rw [ht]; exact hP, va_K.moved hW.alike hK, hD⟩⟩, hS.F ht⟩) hS.2.2 dX12_sees_66
set_option maxHeartbeats 4000000 in
set_option maxRecDepth 100000 in
theorem c_X12_address (l : Launch) (dC : Nat → ClassId) (dI : Nat → Nat → Nat) (sz : Nat) (m0 : Nat) (kd : Nat) (gw : Nat) (fa : Nat) (gM : Nat → Nat) (th : Int32) (a0 : Int32) (a1 : Int32) (a2 : Int32) : Met l yX12_address (Cond.code yX12_address cX12_address 6 (some .int) :: gU) ({ frames := 3, cells := 0, slots := 0, locals := 64 }) (gP dC dI sz [(m0, .inr (12, mM kd gw fa gM 0 0 0 0 0 0 0 0 th))] [] [.ref m0, .int a0, .int a1, .int a2]) (va_Qi (fun (r : Int32) (_ : Unit) => r = 0) (fun (_ : Unit) (t9 : State) => va_P (dC, dI) vwCl [(m0, .inr (12, mM kd gw fa gM 0 0 0 0 0 0 0 0 1))] t9.heap ∧ va_K (dC, dI) vwCl [] t9 ∧ va_D (va_A [(m0, .inr (12, mM kd gw fa gM 0 0 0 0 0 0 0 0 th))] sz) [(m0, .inr (12, mM kd gw fa gM 0 0 0 0 0 0 0 0 1))]) (va_A [(m0, .inr (12, mM kd gw fa gM 0 0 0 0 0 0 0 0 th))] sz)) 0 0 (va_A [(m0, .inr (12, mM kd gw fa gM 0 0 0 0 0 0 0 0 th))] sz) := by
  refine Met.ofW (cc := cX12_address) (maxL := 6) (ret := (some .int)) (by decide) rfl ?_
  intro p e s m args below meth c s₁ B hml hv
  obtain ⟨rfl, hsz, hP, hK, hD0, hE⟩ := hv
  have hx := B.exec
  have hb := B.bytes
  have hr := B.returns
  have hts0 := atoms_spec (ws := Cond.code yX12_address cX12_address 6 (some .int) :: gU) B.pre
  have hts : ∀ w ∈ gU, w.before _ s = true := fun w h => hts0 w (List.mem_cons_of_mem _ h)
  have hown : s.vm.findClass RX12 = some m.cls := findClass_of_methodNamed B.named
  have hlocks := B.notSynchronized
  subst hsz
  have hD := hD0.self (sz := s.heap.size)
  generalize hAe : va_A [(m0, .inr (12, mM kd gw fa gM 0 0 0 0 0 0 0 0 th))] s.heap.size = A at hD ⊢
  have hA : ∀ q : Nat, s.heap.size ≤ q → A q := fun q h => by rw [← hAe]; exact Or.inr h
  have hS : va_S A s.heap s.heap [] := va_S.rf
  have hP : va_P (dC, dI) vwCl [(m0, .inr (12, mM kd gw fa gM 0 0 0 0 0 0 0 0 th))] s.heap := hP
  have hl := lv_entry ([.ref m0, .int a0, .int a1, .int a2]) (n := 6) (Nat.le_of_ble_eq_true rfl)
  rw [lg_entry_eq]
  generalize (lg_sl ([.ref m0, .int a0, .int a1, .int a2]) ++ List.replicate (6 - (lg_sl ([.ref m0, .int a0, .int a1, .int a2])).length) Slot.unset).toArray = ls at hl ⊢
  have hl : lv_has ls 6 [(0, .ref m0), (1, .int a0), (2, .int a1), (3, .int a2)] := hl
  refine lv_aload_n hx hb dX12_address_0 rfl (lv_at hl 0 rfl) ?_
  refine lv_iload_n hx hb dX12_address_1 rfl (lv_at hl 1 rfl) ?_
  have hPc := hP.sub (ws' := [(m0, .inr (12, mM kd gw fa gM 0 0 0 0 0 0 0 0 th))]) [0] rfl
  have hDc := hD.sub (ws' := [(m0, .inr (12, mM kd gw fa gM 0 0 0 0 0 0 0 0 th))]) [0] (by decide) rfl
  have hKc := hK.sub (tys' := []) [] rfl
  have hFc := roF hS hA
  refine va_calli (va_runV (As := [.int a0]) (rest := []) ⟨hx, hb, hml, hown, hts⟩ (c_X12_isPort l dC dI s.heap.size m0 kd gw fa gM th a0) (cwV 1 hts (gV u_1411 u_1413 v_45 u_14 u_1414) rfl rfl rfl (by decide +kernel) ⟨Nat.le_of_ble_eq_true rfl, Nat.le_of_ble_eq_true rfl⟩) ⟨gP_blind, va_recv hKc hPc (ci := 12) (q0 := 0) rfl rfl, gP_call hPc hKc hDc hE⟩ rfl rfl hl.1 rfl (lv_room (Nat.le_of_ble_eq_true rfl)) dX12_address_2 ⟨(Nat.le_of_ble_eq_true rfl), (Nat.le_of_ble_eq_true rfl)⟩) hS (fun q _ h => hFc q h) hFc (fun r184 u9 t9 H183 locs ht hvm hw hB hz1 hk1 hS => ?_)
  have hP := roP hP hk1
  subst hw
  refine lv_istore (lv' := [(4, .int 0), (0, .ref m0), (1, .int a0), (2, .int a1), (3, .int a2)]) hx hb dX12_address_5 hl (by decide) rfl (fun ls hl => ?_)
  refine lv_aload_n hx hb dX12_address_7 rfl (lv_at hl 1 rfl) ?_
  refine lv_iload hx hb dX12_address_8 (lv_at hl 0 rfl) ?_
  refine lv_if_ne (tgt := 17) hx hb dX12_address_10 (by decide) (fun h9 => absurd (by decide) h9) (fun _ => ?_)
  refine lv_iconst (v := 1) hx hb dX12_address_13 (by decide) ?_
  refine lv_goto (tgt := 48) hx hb dX12_address_14 (by decide) ?_
  have hPc := hP.sub (ws' := [(m0, .inr (12, mM kd gw fa gM 0 0 0 0 0 0 0 0 th))]) [0] rfl
  have hDc := hD.sub (ws' := [(m0, .inr (12, mM kd gw fa gM 0 0 0 0 0 0 0 0 th))]) [0] (by decide) rfl
  have hKc := hK.sub (tys' := []) [] rfl
  have hFc := va_free (wc := [(m0, .inr (12, mM kd gw fa gM 0 0 0 0 0 0 0 0 th))]) hD hS hA [0] rfl
  refine va_calli (va_runV (As := [.int 1]) (rest := []) ⟨hx, hb, hml, hown, hts⟩ (c_X12_can l dC dI H183.size m0 kd gw fa gM th 1) (cwV 1 hts (gV u_1403 u_1405 v_44 u_14 u_1406) rfl rfl rfl (by decide +kernel) ⟨Nat.le_of_ble_eq_true rfl, Nat.le_of_ble_eq_true rfl⟩) ⟨gP_blind, va_recv hKc hPc (ci := 12) (q0 := 0) rfl rfl, gP_call hPc hKc hDc hE⟩ rfl rfl hl.1 rfl (lv_room (Nat.le_of_ble_eq_true rfl)) dX12_address_48 ⟨(Nat.le_of_ble_eq_true rfl), (Nat.le_of_ble_eq_true rfl)⟩) hS (fun q _ h => hFc q h) hFc (fun r186 u9 t9 H185 locs ht hvm hw hB hz1 hk1 hS => ?_)
  obtain ⟨hP1, hK1, hD1⟩ := hB
  rw [ht] at hP1
  have hK1 := va_K.moved hvm.symm hK1
  obtain ⟨hP, hD⟩ := va_join (wr := []) (w1 := [(m0, .inr (12, mM kd gw fa gM 0 0 0 0 0 0 0 0 1))]) hP hD [0] [] rfl rfl (by decide) (by decide) hk1 hFc hP1 hD1
  have hK := (hK.sub (tys' := []) [] rfl).app hK1
  have hK : va_K (dC, dI) vwCl [] s := hK
  have hP : va_P (dC, dI) vwCl [(m0, .inr (12, mM kd gw fa gM 0 0 0 0 0 0 0 0 1))] H185 := hP
  have hD : va_D A [(m0, .inr (12, mM kd gw fa gM 0 0 0 0 0 0 0 0 1))] := hD
  subst hw
  rw [show gCan 1 = 0 from by decide]
  refine lv_if_ne (tgt := 56) hx hb dX12_address_51 (by decide) (fun h9 => absurd (by decide) h9) (fun _ => ?_)
  refine lv_iconst (v := 0) hx hb dX12_address_54 (by decide) ?_
  refine W.widen (k := 0) (n := 0) (Nat.le_of_ble_eq_true rfl) (Nat.le_of_ble_eq_true rfl) ?_
  exact W.iret (v := 0) hx hb hr (fun t ht hW => ⟨⟨0, (), rfl, rfl, ⟨by rw [ht]; exact hP, va_K.moved hW.alike hK, hD⟩⟩, hS.F ht⟩) hS.2.2 dX12_address_55
set_option maxHeartbeats 4000000 in
set_option maxRecDepth 100000 in
theorem c_X12_gateway (l : Launch) (dC : Nat → ClassId) (dI : Nat → Nat → Nat) (sz : Nat) (m0 : Nat) (kd : Nat) (gw : Nat) (fa : Nat) (gM : Nat → Nat) (th : Int32) (a0 : Int32) (a1 : Int32) : Met l yX12_gateway (Cond.code yX12_gateway cX12_gateway 4 (some .int) :: gU) ({ frames := 2, cells := 0, slots := 0, locals := 43 }) (gP dC dI sz [(m0, .inr (12, mM kd gw fa gM 0 0 0 0 0 0 0 0 th))] [] [.ref m0, .int a0, .int a1]) (va_Qi (fun (r : Int32) (_ : Unit) => r = 0) (fun (_ : Unit) (t9 : State) => va_P (dC, dI) vwCl [(m0, .inr (12, mM kd gw fa gM 0 0 0 0 0 0 0 0 1))] t9.heap ∧ va_K (dC, dI) vwCl [] t9 ∧ va_D (va_A [(m0, .inr (12, mM kd gw fa gM 0 0 0 0 0 0 0 0 th))] sz) [(m0, .inr (12, mM kd gw fa gM 0 0 0 0 0 0 0 0 1))]) (va_A [(m0, .inr (12, mM kd gw fa gM 0 0 0 0 0 0 0 0 th))] sz)) 0 0 (va_A [(m0, .inr (12, mM kd gw fa gM 0 0 0 0 0 0 0 0 th))] sz) := by
  refine Met.ofW (cc := cX12_gateway) (maxL := 4) (ret := (some .int)) (by decide) rfl ?_
  intro p e s m args below meth c s₁ B hml hv
  obtain ⟨rfl, hsz, hP, hK, hD0, hE⟩ := hv
  have hx := B.exec
  have hb := B.bytes
  have hr := B.returns
  have hts0 := atoms_spec (ws := Cond.code yX12_gateway cX12_gateway 4 (some .int) :: gU) B.pre
  have hts : ∀ w ∈ gU, w.before _ s = true := fun w h => hts0 w (List.mem_cons_of_mem _ h)
  have hown : s.vm.findClass RX12 = some m.cls := findClass_of_methodNamed B.named
  have hlocks := B.notSynchronized
  subst hsz
  have hD := hD0.self (sz := s.heap.size)
  generalize hAe : va_A [(m0, .inr (12, mM kd gw fa gM 0 0 0 0 0 0 0 0 th))] s.heap.size = A at hD ⊢
  have hA : ∀ q : Nat, s.heap.size ≤ q → A q := fun q h => by rw [← hAe]; exact Or.inr h
  have hS : va_S A s.heap s.heap [] := va_S.rf
  have hP : va_P (dC, dI) vwCl [(m0, .inr (12, mM kd gw fa gM 0 0 0 0 0 0 0 0 th))] s.heap := hP
  have hl := lv_entry ([.ref m0, .int a0, .int a1]) (n := 4) (Nat.le_of_ble_eq_true rfl)
  rw [lg_entry_eq]
  generalize (lg_sl ([.ref m0, .int a0, .int a1]) ++ List.replicate (4 - (lg_sl ([.ref m0, .int a0, .int a1])).length) Slot.unset).toArray = ls at hl ⊢
  have hl : lv_has ls 4 [(0, .ref m0), (1, .int a0), (2, .int a1)] := hl
  refine lv_aload_n hx hb dX12_gateway_0 rfl (lv_at hl 0 rfl) ?_
  refine lv_aload_n hx hb dX12_gateway_1 rfl (lv_at hl 0 rfl) ?_
  refine lv_iload_n hx hb dX12_gateway_2 rfl (lv_at hl 1 rfl) ?_
  have hPc := hP.sub (ws' := [(m0, .inr (12, mM kd gw fa gM 0 0 0 0 0 0 0 0 th))]) [0] rfl
  have hDc := hD.sub (ws' := [(m0, .inr (12, mM kd gw fa gM 0 0 0 0 0 0 0 0 th))]) [0] (by decide) rfl
  have hKc := hK.sub (tys' := []) [] rfl
  have hFc := roF hS hA
  refine va_calli (va_runV (As := [.int a0]) (rest := [.ref m0]) ⟨hx, hb, hml, hown, hts⟩ (c_X12_isBox l dC dI s.heap.size m0 kd gw fa gM th a0) (cwV 1 hts (gV u_1415 u_1417 v_46 u_14 u_1418) rfl rfl rfl (by decide +kernel) ⟨Nat.le_of_ble_eq_true rfl, Nat.le_of_ble_eq_true rfl⟩) ⟨gP_blind, va_recv hKc hPc (ci := 12) (q0 := 0) rfl rfl, gP_call hPc hKc hDc hE⟩ rfl rfl hl.1 rfl (lv_room (Nat.le_of_ble_eq_true rfl)) dX12_gateway_3 ⟨(Nat.le_of_ble_eq_true rfl), (Nat.le_of_ble_eq_true rfl)⟩) hS (fun q _ h => hFc q h) hFc (fun r188 u9 t9 H187 locs ht hvm hw hB hz1 hk1 hS => ?_)
  have hP := roP hP hk1
  subst hw
  refine lv_if_ne (tgt := 13) hx hb dX12_gateway_6 (by decide) (fun h9 => absurd (by decide) h9) (fun _ => ?_)
  refine lv_iconst (v := 1) hx hb dX12_gateway_9 (by decide) ?_
  refine lv_goto (tgt := 39) hx hb dX12_gateway_10 (by decide) ?_
  have hPc := hP.sub (ws' := [(m0, .inr (12, mM kd gw fa gM 0 0 0 0 0 0 0 0 th))]) [0] rfl
  have hDc := hD.sub (ws' := [(m0, .inr (12, mM kd gw fa gM 0 0 0 0 0 0 0 0 th))]) [0] (by decide) rfl
  have hKc := hK.sub (tys' := []) [] rfl
  have hFc := va_free (wc := [(m0, .inr (12, mM kd gw fa gM 0 0 0 0 0 0 0 0 th))]) hD hS hA [0] rfl
  refine va_calli (va_runV (As := [.int 1]) (rest := []) ⟨hx, hb, hml, hown, hts⟩ (c_X12_can l dC dI H187.size m0 kd gw fa gM th 1) (cwV 1 hts (gV u_1403 u_1405 v_44 u_14 u_1406) rfl rfl rfl (by decide +kernel) ⟨Nat.le_of_ble_eq_true rfl, Nat.le_of_ble_eq_true rfl⟩) ⟨gP_blind, va_recv hKc hPc (ci := 12) (q0 := 0) rfl rfl, gP_call hPc hKc hDc hE⟩ rfl rfl hl.1 rfl (lv_room (Nat.le_of_ble_eq_true rfl)) dX12_gateway_39 ⟨(Nat.le_of_ble_eq_true rfl), (Nat.le_of_ble_eq_true rfl)⟩) hS (fun q _ h => hFc q h) hFc (fun r190 u9 t9 H189 locs ht hvm hw hB hz1 hk1 hS => ?_)
  obtain ⟨hP1, hK1, hD1⟩ := hB
  rw [ht] at hP1
  have hK1 := va_K.moved hvm.symm hK1
  obtain ⟨hP, hD⟩ := va_join (wr := []) (w1 := [(m0, .inr (12, mM kd gw fa gM 0 0 0 0 0 0 0 0 1))]) hP hD [0] [] rfl rfl (by decide) (by decide) hk1 hFc hP1 hD1
  have hK := (hK.sub (tys' := []) [] rfl).app hK1
  have hK : va_K (dC, dI) vwCl [] s := hK
  have hP : va_P (dC, dI) vwCl [(m0, .inr (12, mM kd gw fa gM 0 0 0 0 0 0 0 0 1))] H189 := hP
  have hD : va_D A [(m0, .inr (12, mM kd gw fa gM 0 0 0 0 0 0 0 0 1))] := hD
  subst hw
  rw [show gCan 1 = 0 from by decide]
  refine lv_if_ne (tgt := 47) hx hb dX12_gateway_42 (by decide) (fun h9 => absurd (by decide) h9) (fun _ => ?_)
  refine lv_iconst (v := 0) hx hb dX12_gateway_45 (by decide) ?_
  refine W.widen (k := 0) (n := 0) (Nat.le_of_ble_eq_true rfl) (Nat.le_of_ble_eq_true rfl) ?_
  exact W.iret (v := 0) hx hb hr (fun t ht hW => ⟨⟨0, (), rfl, rfl, ⟨by rw [ht]; exact hP, va_K.moved hW.alike hK, hD⟩⟩, hS.F ht⟩) hS.2.2 dX12_gateway_46
set_option maxHeartbeats 4000000 in
set_option maxRecDepth 100000 in
theorem c_X12_route (l : Launch) (dC : Nat → ClassId) (dI : Nat → Nat → Nat) (sz : Nat) (m0 : Nat) (kd : Nat) (gw : Nat) (fa : Nat) (gM : Nat → Nat) (th : Int32) (a0 : Int32) (a1 : Int32) (a2 : Int32) (a3 : Int32) : Met l yX12_route (Cond.code yX12_route cX12_route 7 (some .int) :: gU) ({ frames := 3, cells := 0, slots := 0, locals := 65 }) (gP dC dI sz [(m0, .inr (12, mM kd gw fa gM 0 0 0 0 0 0 0 0 th))] [] [.ref m0, .int a0, .int a1, .int a2, .int a3]) (va_Qi (fun (r : Int32) (_ : Unit) => r = 0) (fun (_ : Unit) (t9 : State) => va_P (dC, dI) vwCl [(m0, .inr (12, mM kd gw fa gM 0 0 0 0 0 0 0 0 1))] t9.heap ∧ va_K (dC, dI) vwCl [] t9 ∧ va_D (va_A [(m0, .inr (12, mM kd gw fa gM 0 0 0 0 0 0 0 0 th))] sz) [(m0, .inr (12, mM kd gw fa gM 0 0 0 0 0 0 0 0 1))]) (va_A [(m0, .inr (12, mM kd gw fa gM 0 0 0 0 0 0 0 0 th))] sz)) 0 0 (va_A [(m0, .inr (12, mM kd gw fa gM 0 0 0 0 0 0 0 0 th))] sz) := by
  refine Met.ofW (cc := cX12_route) (maxL := 7) (ret := (some .int)) (by decide) rfl ?_
  intro p e s m args below meth c s₁ B hml hv
  obtain ⟨rfl, hsz, hP, hK, hD0, hE⟩ := hv
  have hx := B.exec
  have hb := B.bytes
  have hr := B.returns
  have hts0 := atoms_spec (ws := Cond.code yX12_route cX12_route 7 (some .int) :: gU) B.pre
  have hts : ∀ w ∈ gU, w.before _ s = true := fun w h => hts0 w (List.mem_cons_of_mem _ h)
  have hown : s.vm.findClass RX12 = some m.cls := findClass_of_methodNamed B.named
  have hlocks := B.notSynchronized
  subst hsz
  have hD := hD0.self (sz := s.heap.size)
  generalize hAe : va_A [(m0, .inr (12, mM kd gw fa gM 0 0 0 0 0 0 0 0 th))] s.heap.size = A at hD ⊢
  have hA : ∀ q : Nat, s.heap.size ≤ q → A q := fun q h => by rw [← hAe]; exact Or.inr h
  have hS : va_S A s.heap s.heap [] := va_S.rf
  have hP : va_P (dC, dI) vwCl [(m0, .inr (12, mM kd gw fa gM 0 0 0 0 0 0 0 0 th))] s.heap := hP
  have hl := lv_entry ([.ref m0, .int a0, .int a1, .int a2, .int a3]) (n := 7) (Nat.le_of_ble_eq_true rfl)
  rw [lg_entry_eq]
  generalize (lg_sl ([.ref m0, .int a0, .int a1, .int a2, .int a3]) ++ List.replicate (7 - (lg_sl ([.ref m0, .int a0, .int a1, .int a2, .int a3])).length) Slot.unset).toArray = ls at hl ⊢
  have hl : lv_has ls 7 [(0, .ref m0), (1, .int a0), (2, .int a1), (3, .int a2), (4, .int a3)] := hl
  refine lv_aload_n hx hb dX12_route_0 rfl (lv_at hl 0 rfl) ?_
  refine lv_iload_n hx hb dX12_route_1 rfl (lv_at hl 1 rfl) ?_
  refine lv_iconst (v := 2) hx hb dX12_route_2 (by decide) ?_
  have hPc := hP.sub (ws' := [(m0, .inr (12, mM kd gw fa gM 0 0 0 0 0 0 0 0 th))]) [0] rfl
  have hDc := hD.sub (ws' := [(m0, .inr (12, mM kd gw fa gM 0 0 0 0 0 0 0 0 th))]) [0] (by decide) rfl
  have hKc := hK.sub (tys' := []) [] rfl
  have hFc := roF hS hA
  refine va_calli (va_runV (As := [.int a0, .int 2]) (rest := []) ⟨hx, hb, hml, hown, hts⟩ (c_X12_isKind l dC dI s.heap.size m0 kd gw fa gM th a0 2) (cwV 2 hts (gV u_1494 u_1496 v_59 u_14 u_1497) rfl rfl rfl (by decide +kernel) ⟨Nat.le_of_ble_eq_true rfl, Nat.le_of_ble_eq_true rfl⟩) ⟨gP_blind, va_recv hKc hPc (ci := 12) (q0 := 0) rfl rfl, gP_call hPc hKc hDc hE⟩ rfl rfl hl.1 rfl (lv_room (Nat.le_of_ble_eq_true rfl)) dX12_route_3 ⟨(Nat.le_of_ble_eq_true rfl), (Nat.le_of_ble_eq_true rfl)⟩) hS (fun q _ h => hFc q h) hFc (fun r192 u9 t9 H191 locs ht hvm hw hB hz1 hk1 hS => ?_)
  have hP := roP hP hk1
  subst hw
  refine lv_if_eq (tgt := 38) hx hb dX12_route_6 (by decide) (fun _ => ?_) (fun h9 => absurd (by decide) h9)
  refine lv_iconst (v := 0) hx hb dX12_route_38 (by decide) ?_
  refine lv_istore (lv' := [(5, .int 0), (0, .ref m0), (1, .int a0), (2, .int a1), (3, .int a2), (4, .int a3)]) hx hb dX12_route_39 hl (by decide) rfl (fun ls hl => ?_)
  refine lv_aload_n hx hb dX12_route_41 rfl (lv_at hl 1 rfl) ?_
  refine lv_aload_n hx hb dX12_route_42 rfl (lv_at hl 1 rfl) ?_
  refine lv_iload_n hx hb dX12_route_43 rfl (lv_at hl 2 rfl) ?_
  have hPc := hP.sub (ws' := [(m0, .inr (12, mM kd gw fa gM 0 0 0 0 0 0 0 0 th))]) [0] rfl
  have hDc := hD.sub (ws' := [(m0, .inr (12, mM kd gw fa gM 0 0 0 0 0 0 0 0 th))]) [0] (by decide) rfl
  have hKc := hK.sub (tys' := []) [] rfl
  have hFc := roF hS hA
  refine va_calli (va_runV (As := [.int a0]) (rest := [.ref m0]) ⟨hx, hb, hml, hown, hts⟩ (c_X12_isBox l dC dI H191.size m0 kd gw fa gM th a0) (cwV 1 hts (gV u_1415 u_1417 v_46 u_14 u_1418) rfl rfl rfl (by decide +kernel) ⟨Nat.le_of_ble_eq_true rfl, Nat.le_of_ble_eq_true rfl⟩) ⟨gP_blind, va_recv hKc hPc (ci := 12) (q0 := 0) rfl rfl, gP_call hPc hKc hDc hE⟩ rfl rfl hl.1 rfl (lv_room (Nat.le_of_ble_eq_true rfl)) dX12_route_44 ⟨(Nat.le_of_ble_eq_true rfl), (Nat.le_of_ble_eq_true rfl)⟩) hS (fun q _ h => hFc q h) hFc (fun r194 u9 t9 H193 locs ht hvm hw hB hz1 hk1 hS => ?_)
  have hP := roP hP hk1
  subst hw
  refine lv_if_ne (tgt := 54) hx hb dX12_route_47 (by decide) (fun h9 => absurd (by decide) h9) (fun _ => ?_)
  refine lv_iconst (v := 1) hx hb dX12_route_50 (by decide) ?_
  refine lv_goto (tgt := 79) hx hb dX12_route_51 (by decide) ?_
  have hPc := hP.sub (ws' := [(m0, .inr (12, mM kd gw fa gM 0 0 0 0 0 0 0 0 th))]) [0] rfl
  have hDc := hD.sub (ws' := [(m0, .inr (12, mM kd gw fa gM 0 0 0 0 0 0 0 0 th))]) [0] (by decide) rfl
  have hKc := hK.sub (tys' := []) [] rfl
  have hFc := va_free (wc := [(m0, .inr (12, mM kd gw fa gM 0 0 0 0 0 0 0 0 th))]) hD hS hA [0] rfl
  refine va_calli (va_runV (As := [.int 1]) (rest := []) ⟨hx, hb, hml, hown, hts⟩ (c_X12_can l dC dI H193.size m0 kd gw fa gM th 1) (cwV 1 hts (gV u_1403 u_1405 v_44 u_14 u_1406) rfl rfl rfl (by decide +kernel) ⟨Nat.le_of_ble_eq_true rfl, Nat.le_of_ble_eq_true rfl⟩) ⟨gP_blind, va_recv hKc hPc (ci := 12) (q0 := 0) rfl rfl, gP_call hPc hKc hDc hE⟩ rfl rfl hl.1 rfl (lv_room (Nat.le_of_ble_eq_true rfl)) dX12_route_79 ⟨(Nat.le_of_ble_eq_true rfl), (Nat.le_of_ble_eq_true rfl)⟩) hS (fun q _ h => hFc q h) hFc (fun r196 u9 t9 H195 locs ht hvm hw hB hz1 hk1 hS => ?_)
  obtain ⟨hP1, hK1, hD1⟩ := hB
  rw [ht] at hP1
  have hK1 := va_K.moved hvm.symm hK1
  obtain ⟨hP, hD⟩ := va_join (wr := []) (w1 := [(m0, .inr (12, mM kd gw fa gM 0 0 0 0 0 0 0 0 1))]) hP hD [0] [] rfl rfl (by decide) (by decide) hk1 hFc hP1 hD1
  have hK := (hK.sub (tys' := []) [] rfl).app hK1
  have hK : va_K (dC, dI) vwCl [] s := hK
  have hP : va_P (dC, dI) vwCl [(m0, .inr (12, mM kd gw fa gM 0 0 0 0 0 0 0 0 1))] H195 := hP
  have hD : va_D A [(m0, .inr (12, mM kd gw fa gM 0 0 0 0 0 0 0 0 1))] := hD
  subst hw
  rw [show gCan 1 = 0 from by decide]
  refine lv_if_ne (tgt := 87) hx hb dX12_route_82 (by decide) (fun h9 => absurd (by decide) h9) (fun _ => ?_)
  refine lv_iconst (v := 0) hx hb dX12_route_85 (by decide) ?_
  refine W.widen (k := 0) (n := 0) (Nat.le_of_ble_eq_true rfl) (Nat.le_of_ble_eq_true rfl) ?_
  exact W.iret (v := 0) hx hb hr (fun t ht hW => ⟨⟨0, (), rfl, rfl, ⟨by rw [ht]; exact hP, va_K.moved hW.alike hK, hD⟩⟩, hS.F ht⟩) hS.2.2 dX12_route_86
set_option maxHeartbeats 4000000 in
set_option maxRecDepth 100000 in
theorem c_X12_rule (l : Launch) (dC : Nat → ClassId) (dI : Nat → Nat → Nat) (sz : Nat) (m0 : Nat) (kd : Nat) (gw : Nat) (fa : Nat) (gM : Nat → Nat) (th : Int32) (a0 : Int32) (a1 : Int32) (a2 : Int32) (a3 : Int32) (a4 : Int32) (a5 : Int32) (a6 : Int32) : Met l yX12_rule (Cond.code yX12_rule cX12_rule 10 (some .int) :: gU) ({ frames := 3, cells := 0, slots := 0, locals := 65 }) (gP dC dI sz [(m0, .inr (12, mM kd gw fa gM 0 0 0 0 0 0 0 0 th))] [] [.ref m0, .int a0, .int a1, .int a2, .int a3, .int a4, .int a5, .int a6]) (va_Qi (fun (r : Int32) (_ : Unit) => r = 0) (fun (_ : Unit) (t9 : State) => va_P (dC, dI) vwCl [(m0, .inr (12, mM kd gw fa gM 0 0 0 0 0 0 0 0 1))] t9.heap ∧ va_K (dC, dI) vwCl [] t9 ∧ va_D (va_A [(m0, .inr (12, mM kd gw fa gM 0 0 0 0 0 0 0 0 th))] sz) [(m0, .inr (12, mM kd gw fa gM 0 0 0 0 0 0 0 0 1))]) (va_A [(m0, .inr (12, mM kd gw fa gM 0 0 0 0 0 0 0 0 th))] sz)) 0 0 (va_A [(m0, .inr (12, mM kd gw fa gM 0 0 0 0 0 0 0 0 th))] sz) := by
  refine Met.ofW (cc := cX12_rule) (maxL := 10) (ret := (some .int)) (by decide) rfl ?_
  intro p e s m args below meth c s₁ B hml hv
  obtain ⟨rfl, hsz, hP, hK, hD0, hE⟩ := hv
  have hx := B.exec
  have hb := B.bytes
  have hr := B.returns
  have hts0 := atoms_spec (ws := Cond.code yX12_rule cX12_rule 10 (some .int) :: gU) B.pre
  have hts : ∀ w ∈ gU, w.before _ s = true := fun w h => hts0 w (List.mem_cons_of_mem _ h)
  have hown : s.vm.findClass RX12 = some m.cls := findClass_of_methodNamed B.named
  have hlocks := B.notSynchronized
  subst hsz
  have hD := hD0.self (sz := s.heap.size)
  generalize hAe : va_A [(m0, .inr (12, mM kd gw fa gM 0 0 0 0 0 0 0 0 th))] s.heap.size = A at hD ⊢
  have hA : ∀ q : Nat, s.heap.size ≤ q → A q := fun q h => by rw [← hAe]; exact Or.inr h
  have hS : va_S A s.heap s.heap [] := va_S.rf
  have hP : va_P (dC, dI) vwCl [(m0, .inr (12, mM kd gw fa gM 0 0 0 0 0 0 0 0 th))] s.heap := hP
  have hl := lv_entry ([.ref m0, .int a0, .int a1, .int a2, .int a3, .int a4, .int a5, .int a6]) (n := 10) (Nat.le_of_ble_eq_true rfl)
  rw [lg_entry_eq]
  generalize (lg_sl ([.ref m0, .int a0, .int a1, .int a2, .int a3, .int a4, .int a5, .int a6]) ++ List.replicate (10 - (lg_sl ([.ref m0, .int a0, .int a1, .int a2, .int a3, .int a4, .int a5, .int a6])).length) Slot.unset).toArray = ls at hl ⊢
  have hl : lv_has ls 10 [(0, .ref m0), (1, .int a0), (2, .int a1), (3, .int a2), (4, .int a3), (5, .int a4), (6, .int a5), (7, .int a6)] := hl
  refine lv_aload_n hx hb dX12_rule_0 rfl (lv_at hl 0 rfl) ?_
  refine lv_iload_n hx hb dX12_rule_1 rfl (lv_at hl 1 rfl) ?_
  refine lv_iconst (v := 2) hx hb dX12_rule_2 (by decide) ?_
  have hPc := hP.sub (ws' := [(m0, .inr (12, mM kd gw fa gM 0 0 0 0 0 0 0 0 th))]) [0] rfl
  have hDc := hD.sub (ws' := [(m0, .inr (12, mM kd gw fa gM 0 0 0 0 0 0 0 0 th))]) [0] (by decide) rfl
  have hKc := hK.sub (tys' := []) [] rfl
  have hFc := roF hS hA
  refine va_calli (va_runV (As := [.int a0, .int 2]) (rest := []) ⟨hx, hb, hml, hown, hts⟩ (c_X12_isKind l dC dI s.heap.size m0 kd gw fa gM th a0 2) (cwV 2 hts (gV u_1494 u_1496 v_59 u_14 u_1497) rfl rfl rfl (by decide +kernel) ⟨Nat.le_of_ble_eq_true rfl, Nat.le_of_ble_eq_true rfl⟩) ⟨gP_blind, va_recv hKc hPc (ci := 12) (q0 := 0) rfl rfl, gP_call hPc hKc hDc hE⟩ rfl rfl hl.1 rfl (lv_room (Nat.le_of_ble_eq_true rfl)) dX12_rule_3 ⟨(Nat.le_of_ble_eq_true rfl), (Nat.le_of_ble_eq_true rfl)⟩) hS (fun q _ h => hFc q h) hFc (fun r198 u9 t9 H197 locs ht hvm hw hB hz1 hk1 hS => ?_)
  have hP := roP hP hk1
  subst hw
  refine lv_if_eq (tgt := 59) hx hb dX12_rule_6 (by decide) (fun _ => ?_) (fun h9 => absurd (by decide) h9)
  refine lv_iconst (v := 0) hx hb dX12_rule_59 (by decide) ?_
  refine lv_istore (lv' := [(8, .int 0), (0, .ref m0), (1, .int a0), (2, .int a1), (3, .int a2), (4, .int a3), (5, .int a4), (6, .int a5), (7, .int a6)]) hx hb dX12_rule_60 hl (by decide) rfl (fun ls hl => ?_)
  refine lv_aload_n hx hb dX12_rule_62 rfl (lv_at hl 1 rfl) ?_
  refine lv_aload_n hx hb dX12_rule_63 rfl (lv_at hl 1 rfl) ?_
  refine lv_iload_n hx hb dX12_rule_64 rfl (lv_at hl 2 rfl) ?_
  have hPc := hP.sub (ws' := [(m0, .inr (12, mM kd gw fa gM 0 0 0 0 0 0 0 0 th))]) [0] rfl
  have hDc := hD.sub (ws' := [(m0, .inr (12, mM kd gw fa gM 0 0 0 0 0 0 0 0 th))]) [0] (by decide) rfl
  have hKc := hK.sub (tys' := []) [] rfl
  have hFc := roF hS hA
  refine va_calli (va_runV (As := [.int a0]) (rest := [.ref m0]) ⟨hx, hb, hml, hown, hts⟩ (c_X12_isBox l dC dI H197.size m0 kd gw fa gM th a0) (cwV 1 hts (gV u_1415 u_1417 v_46 u_14 u_1418) rfl rfl rfl (by decide +kernel) ⟨Nat.le_of_ble_eq_true rfl, Nat.le_of_ble_eq_true rfl⟩) ⟨gP_blind, va_recv hKc hPc (ci := 12) (q0 := 0) rfl rfl, gP_call hPc hKc hDc hE⟩ rfl rfl hl.1 rfl (lv_room (Nat.le_of_ble_eq_true rfl)) dX12_rule_65 ⟨(Nat.le_of_ble_eq_true rfl), (Nat.le_of_ble_eq_true rfl)⟩) hS (fun q _ h => hFc q h) hFc (fun r200 u9 t9 H199 locs ht hvm hw hB hz1 hk1 hS => ?_)
  have hP := roP hP hk1
  subst hw
  refine lv_if_ne (tgt := 75) hx hb dX12_rule_68 (by decide) (fun h9 => absurd (by decide) h9) (fun _ => ?_)
  refine lv_iconst (v := 1) hx hb dX12_rule_71 (by decide) ?_
  refine lv_goto (tgt := 100) hx hb dX12_rule_72 (by decide) ?_
  have hPc := hP.sub (ws' := [(m0, .inr (12, mM kd gw fa gM 0 0 0 0 0 0 0 0 th))]) [0] rfl
  have hDc := hD.sub (ws' := [(m0, .inr (12, mM kd gw fa gM 0 0 0 0 0 0 0 0 th))]) [0] (by decide) rfl
  have hKc := hK.sub (tys' := []) [] rfl
  have hFc := va_free (wc := [(m0, .inr (12, mM kd gw fa gM 0 0 0 0 0 0 0 0 th))]) hD hS hA [0] rfl
  refine va_calli (va_runV (As := [.int 1]) (rest := []) ⟨hx, hb, hml, hown, hts⟩ (c_X12_can l dC dI H199.size m0 kd gw fa gM th 1) (cwV 1 hts (gV u_1403 u_1405 v_44 u_14 u_1406) rfl rfl rfl (by decide +kernel) ⟨Nat.le_of_ble_eq_true rfl, Nat.le_of_ble_eq_true rfl⟩) ⟨gP_blind, va_recv hKc hPc (ci := 12) (q0 := 0) rfl rfl, gP_call hPc hKc hDc hE⟩ rfl rfl hl.1 rfl (lv_room (Nat.le_of_ble_eq_true rfl)) dX12_rule_100 ⟨(Nat.le_of_ble_eq_true rfl), (Nat.le_of_ble_eq_true rfl)⟩) hS (fun q _ h => hFc q h) hFc (fun r202 u9 t9 H201 locs ht hvm hw hB hz1 hk1 hS => ?_)
  obtain ⟨hP1, hK1, hD1⟩ := hB
  rw [ht] at hP1
  have hK1 := va_K.moved hvm.symm hK1
  obtain ⟨hP, hD⟩ := va_join (wr := []) (w1 := [(m0, .inr (12, mM kd gw fa gM 0 0 0 0 0 0 0 0 1))]) hP hD [0] [] rfl rfl (by decide) (by decide) hk1 hFc hP1 hD1
  have hK := (hK.sub (tys' := []) [] rfl).app hK1
  have hK : va_K (dC, dI) vwCl [] s := hK
  have hP : va_P (dC, dI) vwCl [(m0, .inr (12, mM kd gw fa gM 0 0 0 0 0 0 0 0 1))] H201 := hP
  have hD : va_D A [(m0, .inr (12, mM kd gw fa gM 0 0 0 0 0 0 0 0 1))] := hD
  subst hw
  rw [show gCan 1 = 0 from by decide]
  refine lv_if_ne (tgt := 108) hx hb dX12_rule_103 (by decide) (fun h9 => absurd (by decide) h9) (fun _ => ?_)
  refine lv_iconst (v := 0) hx hb dX12_rule_106 (by decide) ?_
  refine W.widen (k := 0) (n := 0) (Nat.le_of_ble_eq_true rfl) (Nat.le_of_ble_eq_true rfl) ?_
  exact W.iret (v := 0) hx hb hr (fun t ht hW => ⟨⟨0, (), rfl, rfl, ⟨by rw [ht]; exact hP, va_K.moved hW.alike hK, hD⟩⟩, hS.F ht⟩) hS.2.2 dX12_rule_107
set_option maxHeartbeats 4000000 in
set_option maxRecDepth 100000 in
theorem c_X12_watch (l : Launch) (dC : Nat → ClassId) (dI : Nat → Nat → Nat) (sz : Nat) (m0 : Nat) (kd : Nat) (gw : Nat) (fa : Nat) (gM : Nat → Nat) (th : Int32) (a0 : Int32) (a1 : Int32) : Met l yX12_watch (Cond.code yX12_watch cX12_watch 4 (some .boolean) :: gU) ({ frames := 2, cells := 0, slots := 0, locals := 43 }) (gP dC dI sz [(m0, .inr (12, mM kd gw fa gM 0 0 0 0 0 0 0 0 th))] [] [.ref m0, .int a0, .int a1]) (va_Qi (fun (r : Int32) (_ : Unit) => r = 0) (fun (_ : Unit) (t9 : State) => va_P (dC, dI) vwCl [(m0, .inr (12, mM kd gw fa gM 0 0 0 0 0 0 0 0 1))] t9.heap ∧ va_K (dC, dI) vwCl [] t9 ∧ va_D (va_A [(m0, .inr (12, mM kd gw fa gM 0 0 0 0 0 0 0 0 th))] sz) [(m0, .inr (12, mM kd gw fa gM 0 0 0 0 0 0 0 0 1))]) (va_A [(m0, .inr (12, mM kd gw fa gM 0 0 0 0 0 0 0 0 th))] sz)) 0 0 (va_A [(m0, .inr (12, mM kd gw fa gM 0 0 0 0 0 0 0 0 th))] sz) := by
  refine Met.ofW (cc := cX12_watch) (maxL := 4) (ret := (some .boolean)) (by decide) rfl ?_
  intro p e s m args below meth c s₁ B hml hv
  obtain ⟨rfl, hsz, hP, hK, hD0, hE⟩ := hv
  have hx := B.exec
  have hb := B.bytes
  have hr := B.returns
  have hts0 := atoms_spec (ws := Cond.code yX12_watch cX12_watch 4 (some .boolean) :: gU) B.pre
  have hts : ∀ w ∈ gU, w.before _ s = true := fun w h => hts0 w (List.mem_cons_of_mem _ h)
  have hown : s.vm.findClass RX12 = some m.cls := findClass_of_methodNamed B.named
  have hlocks := B.notSynchronized
  subst hsz
  have hD := hD0.self (sz := s.heap.size)
  generalize hAe : va_A [(m0, .inr (12, mM kd gw fa gM 0 0 0 0 0 0 0 0 th))] s.heap.size = A at hD ⊢
  have hA : ∀ q : Nat, s.heap.size ≤ q → A q := fun q h => by rw [← hAe]; exact Or.inr h
  have hS : va_S A s.heap s.heap [] := va_S.rf
  have hP : va_P (dC, dI) vwCl [(m0, .inr (12, mM kd gw fa gM 0 0 0 0 0 0 0 0 th))] s.heap := hP
  have hl := lv_entry ([.ref m0, .int a0, .int a1]) (n := 4) (Nat.le_of_ble_eq_true rfl)
  rw [lg_entry_eq]
  generalize (lg_sl ([.ref m0, .int a0, .int a1]) ++ List.replicate (4 - (lg_sl ([.ref m0, .int a0, .int a1])).length) Slot.unset).toArray = ls at hl ⊢
  have hl : lv_has ls 4 [(0, .ref m0), (1, .int a0), (2, .int a1)] := hl
  refine lv_aload_n hx hb dX12_watch_0 rfl (lv_at hl 0 rfl) ?_
  refine lv_aload_n hx hb dX12_watch_1 rfl (lv_at hl 0 rfl) ?_
  refine lv_iload_n hx hb dX12_watch_2 rfl (lv_at hl 1 rfl) ?_
  have hPc := hP.sub (ws' := [(m0, .inr (12, mM kd gw fa gM 0 0 0 0 0 0 0 0 th))]) [0] rfl
  have hDc := hD.sub (ws' := [(m0, .inr (12, mM kd gw fa gM 0 0 0 0 0 0 0 0 th))]) [0] (by decide) rfl
  have hKc := hK.sub (tys' := []) [] rfl
  have hFc := roF hS hA
  refine va_calli (va_runV (As := [.int a0]) (rest := [.ref m0]) ⟨hx, hb, hml, hown, hts⟩ (c_X12_isBox l dC dI s.heap.size m0 kd gw fa gM th a0) (cwV 1 hts (gV u_1415 u_1417 v_46 u_14 u_1418) rfl rfl rfl (by decide +kernel) ⟨Nat.le_of_ble_eq_true rfl, Nat.le_of_ble_eq_true rfl⟩) ⟨gP_blind, va_recv hKc hPc (ci := 12) (q0 := 0) rfl rfl, gP_call hPc hKc hDc hE⟩ rfl rfl hl.1 rfl (lv_room (Nat.le_of_ble_eq_true rfl)) dX12_watch_3 ⟨(Nat.le_of_ble_eq_true rfl), (Nat.le_of_ble_eq_true rfl)⟩) hS (fun q _ h => hFc q h) hFc (fun r204 u9 t9 H203 locs ht hvm hw hB hz1 hk1 hS => ?_)
  have hP := roP hP hk1
  subst hw
  refine lv_if_ne (tgt := 13) hx hb dX12_watch_6 (by decide) (fun h9 => absurd (by decide) h9) (fun _ => ?_)
  refine lv_iconst (v := 1) hx hb dX12_watch_9 (by decide) ?_
  refine lv_goto (tgt := 27) hx hb dX12_watch_10 (by decide) ?_
  have hPc := hP.sub (ws' := [(m0, .inr (12, mM kd gw fa gM 0 0 0 0 0 0 0 0 th))]) [0] rfl
  have hDc := hD.sub (ws' := [(m0, .inr (12, mM kd gw fa gM 0 0 0 0 0 0 0 0 th))]) [0] (by decide) rfl
  have hKc := hK.sub (tys' := []) [] rfl
  have hFc := va_free (wc := [(m0, .inr (12, mM kd gw fa gM 0 0 0 0 0 0 0 0 th))]) hD hS hA [0] rfl
  refine va_calli (va_runV (As := [.int 1]) (rest := []) ⟨hx, hb, hml, hown, hts⟩ (c_X12_can l dC dI H203.size m0 kd gw fa gM th 1) (cwV 1 hts (gV u_1403 u_1405 v_44 u_14 u_1406) rfl rfl rfl (by decide +kernel) ⟨Nat.le_of_ble_eq_true rfl, Nat.le_of_ble_eq_true rfl⟩) ⟨gP_blind, va_recv hKc hPc (ci := 12) (q0 := 0) rfl rfl, gP_call hPc hKc hDc hE⟩ rfl rfl hl.1 rfl (lv_room (Nat.le_of_ble_eq_true rfl)) dX12_watch_27 ⟨(Nat.le_of_ble_eq_true rfl), (Nat.le_of_ble_eq_true rfl)⟩) hS (fun q _ h => hFc q h) hFc (fun r206 u9 t9 H205 locs ht hvm hw hB hz1 hk1 hS => ?_)
  obtain ⟨hP1, hK1, hD1⟩ := hB
  rw [ht] at hP1
  have hK1 := va_K.moved hvm.symm hK1
  obtain ⟨hP, hD⟩ := va_join (wr := []) (w1 := [(m0, .inr (12, mM kd gw fa gM 0 0 0 0 0 0 0 0 1))]) hP hD [0] [] rfl rfl (by decide) (by decide) hk1 hFc hP1 hD1
  have hK := (hK.sub (tys' := []) [] rfl).app hK1
  have hK : va_K (dC, dI) vwCl [] s := hK
  have hP : va_P (dC, dI) vwCl [(m0, .inr (12, mM kd gw fa gM 0 0 0 0 0 0 0 0 1))] H205 := hP
  have hD : va_D A [(m0, .inr (12, mM kd gw fa gM 0 0 0 0 0 0 0 0 1))] := hD
  subst hw
  rw [show gCan 1 = 0 from by decide]
  refine lv_if_ne (tgt := 35) hx hb dX12_watch_30 (by decide) (fun h9 => absurd (by decide) h9) (fun _ => ?_)
  refine lv_iconst (v := 0) hx hb dX12_watch_33 (by decide) ?_
  refine W.widen (k := 0) (n := 0) (Nat.le_of_ble_eq_true rfl) (Nat.le_of_ble_eq_true rfl) ?_
  exact W.zret (v := 0) hx hb hr (by decide) (fun t ht hW => ⟨⟨0, (), rfl, rfl, ⟨by rw [ht]; exact hP, va_K.moved hW.alike hK, hD⟩⟩, hS.F ht⟩) hS.2.2 dX12_watch_34
set_option maxHeartbeats 4000000 in
set_option maxRecDepth 100000 in
theorem c_X12_pool (l : Launch) (dC : Nat → ClassId) (dI : Nat → Nat → Nat) (sz : Nat) (m0 : Nat) (kd : Nat) (gw : Nat) (fa : Nat) (gM : Nat → Nat) (th : Int32) (a0 : Int32) (a1 : Int32) (a2 : Int32) : Met l yX12_pool (Cond.code yX12_pool cX12_pool 8 (some .int) :: gU) ({ frames := 3, cells := 0, slots := 0, locals := 64 }) (gP dC dI sz [(m0, .inr (12, mM kd gw fa gM 0 0 0 0 0 0 0 0 th))] [] [.ref m0, .int a0, .int a1, .int a2]) (va_Qi (fun (r : Int32) (_ : Unit) => r = 0) (fun (_ : Unit) (t9 : State) => va_P (dC, dI) vwCl [(m0, .inr (12, mM kd gw fa gM 0 0 0 0 0 0 0 0 1))] t9.heap ∧ va_K (dC, dI) vwCl [] t9 ∧ va_D (va_A [(m0, .inr (12, mM kd gw fa gM 0 0 0 0 0 0 0 0 th))] sz) [(m0, .inr (12, mM kd gw fa gM 0 0 0 0 0 0 0 0 1))]) (va_A [(m0, .inr (12, mM kd gw fa gM 0 0 0 0 0 0 0 0 th))] sz)) 0 0 (va_A [(m0, .inr (12, mM kd gw fa gM 0 0 0 0 0 0 0 0 th))] sz) := by
  refine Met.ofW (cc := cX12_pool) (maxL := 8) (ret := (some .int)) (by decide) rfl ?_
  intro p e s m args below meth c s₁ B hml hv
  obtain ⟨rfl, hsz, hP, hK, hD0, hE⟩ := hv
  have hx := B.exec
  have hb := B.bytes
  have hr := B.returns
  have hts0 := atoms_spec (ws := Cond.code yX12_pool cX12_pool 8 (some .int) :: gU) B.pre
  have hts : ∀ w ∈ gU, w.before _ s = true := fun w h => hts0 w (List.mem_cons_of_mem _ h)
  have hown : s.vm.findClass RX12 = some m.cls := findClass_of_methodNamed B.named
  have hlocks := B.notSynchronized
  subst hsz
  have hD := hD0.self (sz := s.heap.size)
  generalize hAe : va_A [(m0, .inr (12, mM kd gw fa gM 0 0 0 0 0 0 0 0 th))] s.heap.size = A at hD ⊢
  have hA : ∀ q : Nat, s.heap.size ≤ q → A q := fun q h => by rw [← hAe]; exact Or.inr h
  have hS : va_S A s.heap s.heap [] := va_S.rf
  have hP : va_P (dC, dI) vwCl [(m0, .inr (12, mM kd gw fa gM 0 0 0 0 0 0 0 0 th))] s.heap := hP
  have hl := lv_entry ([.ref m0, .int a0, .int a1, .int a2]) (n := 8) (Nat.le_of_ble_eq_true rfl)
  rw [lg_entry_eq]
  generalize (lg_sl ([.ref m0, .int a0, .int a1, .int a2]) ++ List.replicate (8 - (lg_sl ([.ref m0, .int a0, .int a1, .int a2])).length) Slot.unset).toArray = ls at hl ⊢
  have hl : lv_has ls 8 [(0, .ref m0), (1, .int a0), (2, .int a1), (3, .int a2)] := hl
  refine lv_aload_n hx hb dX12_pool_0 rfl (lv_at hl 0 rfl) ?_
  refine lv_iload_n hx hb dX12_pool_1 rfl (lv_at hl 1 rfl) ?_
  have hPc := hP.sub (ws' := [(m0, .inr (12, mM kd gw fa gM 0 0 0 0 0 0 0 0 th))]) [0] rfl
  have hDc := hD.sub (ws' := [(m0, .inr (12, mM kd gw fa gM 0 0 0 0 0 0 0 0 th))]) [0] (by decide) rfl
  have hKc := hK.sub (tys' := []) [] rfl
  have hFc := roF hS hA
  refine va_calli (va_runV (As := [.int a0]) (rest := []) ⟨hx, hb, hml, hown, hts⟩ (c_X12_isPort l dC dI s.heap.size m0 kd gw fa gM th a0) (cwV 1 hts (gV u_1411 u_1413 v_45 u_14 u_1414) rfl rfl rfl (by decide +kernel) ⟨Nat.le_of_ble_eq_true rfl, Nat.le_of_ble_eq_true rfl⟩) ⟨gP_blind, va_recv hKc hPc (ci := 12) (q0 := 0) rfl rfl, gP_call hPc hKc hDc hE⟩ rfl rfl hl.1 rfl (lv_room (Nat.le_of_ble_eq_true rfl)) dX12_pool_2 ⟨(Nat.le_of_ble_eq_true rfl), (Nat.le_of_ble_eq_true rfl)⟩) hS (fun q _ h => hFc q h) hFc (fun r208 u9 t9 H207 locs ht hvm hw hB hz1 hk1 hS => ?_)
  have hP := roP hP hk1
  subst hw
  refine lv_istore (lv' := [(4, .int 0), (0, .ref m0), (1, .int a0), (2, .int a1), (3, .int a2)]) hx hb dX12_pool_5 hl (by decide) rfl (fun ls hl => ?_)
  refine lv_iload hx hb dX12_pool_7 (lv_at hl 0 rfl) ?_
  refine lv_if_eq (tgt := 49) hx hb dX12_pool_9 (by decide) (fun _ => ?_) (fun h9 => absurd (by decide) h9)
  refine lv_iconst (v := 0) hx hb dX12_pool_49 (by decide) ?_
  refine lv_istore (lv' := [(5, .int 0), (4, .int 0), (0, .ref m0), (1, .int a0), (2, .int a1), (3, .int a2)]) hx hb dX12_pool_50 hl (by decide) rfl (fun ls hl => ?_)
  refine lv_aload_n hx hb dX12_pool_52 rfl (lv_at hl 2 rfl) ?_
  refine lv_iload hx hb dX12_pool_53 (lv_at hl 1 rfl) ?_
  refine lv_if_ne (tgt := 62) hx hb dX12_pool_55 (by decide) (fun h9 => absurd (by decide) h9) (fun _ => ?_)
  refine lv_iconst (v := 1) hx hb dX12_pool_58 (by decide) ?_
  refine lv_goto (tgt := 72) hx hb dX12_pool_59 (by decide) ?_
  have hPc := hP.sub (ws' := [(m0, .inr (12, mM kd gw fa gM 0 0 0 0 0 0 0 0 th))]) [0] rfl
  have hDc := hD.sub (ws' := [(m0, .inr (12, mM kd gw fa gM 0 0 0 0 0 0 0 0 th))]) [0] (by decide) rfl
  have hKc := hK.sub (tys' := []) [] rfl
  have hFc := va_free (wc := [(m0, .inr (12, mM kd gw fa gM 0 0 0 0 0 0 0 0 th))]) hD hS hA [0] rfl
  refine va_calli (va_runV (As := [.int 1]) (rest := []) ⟨hx, hb, hml, hown, hts⟩ (c_X12_can l dC dI H207.size m0 kd gw fa gM th 1) (cwV 1 hts (gV u_1403 u_1405 v_44 u_14 u_1406) rfl rfl rfl (by decide +kernel) ⟨Nat.le_of_ble_eq_true rfl, Nat.le_of_ble_eq_true rfl⟩) ⟨gP_blind, va_recv hKc hPc (ci := 12) (q0 := 0) rfl rfl, gP_call hPc hKc hDc hE⟩ rfl rfl hl.1 rfl (lv_room (Nat.le_of_ble_eq_true rfl)) dX12_pool_72 ⟨(Nat.le_of_ble_eq_true rfl), (Nat.le_of_ble_eq_true rfl)⟩) hS (fun q _ h => hFc q h) hFc (fun r210 u9 t9 H209 locs ht hvm hw hB hz1 hk1 hS => ?_)
  obtain ⟨hP1, hK1, hD1⟩ := hB
  rw [ht] at hP1
  have hK1 := va_K.moved hvm.symm hK1
  obtain ⟨hP, hD⟩ := va_join (wr := []) (w1 := [(m0, .inr (12, mM kd gw fa gM 0 0 0 0 0 0 0 0 1))]) hP hD [0] [] rfl rfl (by decide) (by decide) hk1 hFc hP1 hD1
  have hK := (hK.sub (tys' := []) [] rfl).app hK1
  have hK : va_K (dC, dI) vwCl [] s := hK
  have hP : va_P (dC, dI) vwCl [(m0, .inr (12, mM kd gw fa gM 0 0 0 0 0 0 0 0 1))] H209 := hP
  have hD : va_D A [(m0, .inr (12, mM kd gw fa gM 0 0 0 0 0 0 0 0 1))] := hD
  subst hw
  rw [show gCan 1 = 0 from by decide]
  refine lv_if_ne (tgt := 80) hx hb dX12_pool_75 (by decide) (fun h9 => absurd (by decide) h9) (fun _ => ?_)
  refine lv_iconst (v := 0) hx hb dX12_pool_78 (by decide) ?_
  refine W.widen (k := 0) (n := 0) (Nat.le_of_ble_eq_true rfl) (Nat.le_of_ble_eq_true rfl) ?_
  exact W.iret (v := 0) hx hb hr (fun t ht hW => ⟨⟨0, (), rfl, rfl, ⟨by rw [ht]; exact hP, va_K.moved hW.alike hK, hD⟩⟩, hS.F ht⟩) hS.2.2 dX12_pool_79
set_option maxHeartbeats 4000000 in
set_option maxRecDepth 100000 in
theorem c_X12_send (l : Launch) (dC : Nat → ClassId) (dI : Nat → Nat → Nat) (sz : Nat) (m0 : Nat) (kd : Nat) (gw : Nat) (fa : Nat) (gM : Nat → Nat) (th : Int32) (a0 : Int32) (a1 : Int32) (a2 : Int32) : Met l yX12_send (Cond.code yX12_send cX12_send 8 (some .int) :: gU) ({ frames := 3, cells := 0, slots := 0, locals := 66 }) (gP dC dI sz [(m0, .inr (12, mM kd gw fa gM 0 0 0 0 0 0 0 0 th))] [] [.ref m0, .int a0, .int a1, .int a2]) (va_Qi (fun (r : Int32) (_ : Unit) => r = 0) (fun (_ : Unit) (t9 : State) => va_P (dC, dI) vwCl [(m0, .inr (12, mM kd gw fa gM 0 0 0 0 0 0 0 0 1))] t9.heap ∧ va_K (dC, dI) vwCl [] t9 ∧ va_D (va_A [(m0, .inr (12, mM kd gw fa gM 0 0 0 0 0 0 0 0 th))] sz) [(m0, .inr (12, mM kd gw fa gM 0 0 0 0 0 0 0 0 1))]) (va_A [(m0, .inr (12, mM kd gw fa gM 0 0 0 0 0 0 0 0 th))] sz)) 0 0 (va_A [(m0, .inr (12, mM kd gw fa gM 0 0 0 0 0 0 0 0 th))] sz) := by
  refine Met.ofW (cc := cX12_send) (maxL := 8) (ret := (some .int)) (by decide) rfl ?_
  intro p e s m args below meth c s₁ B hml hv
  obtain ⟨rfl, hsz, hP, hK, hD0, hE⟩ := hv
  have hx := B.exec
  have hb := B.bytes
  have hr := B.returns
  have hts0 := atoms_spec (ws := Cond.code yX12_send cX12_send 8 (some .int) :: gU) B.pre
  have hts : ∀ w ∈ gU, w.before _ s = true := fun w h => hts0 w (List.mem_cons_of_mem _ h)
  have hown : s.vm.findClass RX12 = some m.cls := findClass_of_methodNamed B.named
  have hlocks := B.notSynchronized
  subst hsz
  have hD := hD0.self (sz := s.heap.size)
  generalize hAe : va_A [(m0, .inr (12, mM kd gw fa gM 0 0 0 0 0 0 0 0 th))] s.heap.size = A at hD ⊢
  have hA : ∀ q : Nat, s.heap.size ≤ q → A q := fun q h => by rw [← hAe]; exact Or.inr h
  have hS : va_S A s.heap s.heap [] := va_S.rf
  have hP : va_P (dC, dI) vwCl [(m0, .inr (12, mM kd gw fa gM 0 0 0 0 0 0 0 0 th))] s.heap := hP
  have hl := lv_entry ([.ref m0, .int a0, .int a1, .int a2]) (n := 8) (Nat.le_of_ble_eq_true rfl)
  rw [lg_entry_eq]
  generalize (lg_sl ([.ref m0, .int a0, .int a1, .int a2]) ++ List.replicate (8 - (lg_sl ([.ref m0, .int a0, .int a1, .int a2])).length) Slot.unset).toArray = ls at hl ⊢
  have hl : lv_has ls 8 [(0, .ref m0), (1, .int a0), (2, .int a1), (3, .int a2)] := hl
  refine lv_aload_n hx hb dX12_send_0 rfl (lv_at hl 0 rfl) ?_
  refine lv_iload_n hx hb dX12_send_1 rfl (lv_at hl 1 rfl) ?_
  refine lv_iload_n hx hb dX12_send_2 rfl (lv_at hl 2 rfl) ?_
  refine lv_iload_n hx hb dX12_send_3 rfl (lv_at hl 3 rfl) ?_
  have hPc := hP.sub (ws' := [(m0, .inr (12, mM kd gw fa gM 0 0 0 0 0 0 0 0 th))]) [0] rfl
  have hDc := hD.sub (ws' := [(m0, .inr (12, mM kd gw fa gM 0 0 0 0 0 0 0 0 th))]) [0] (by decide) rfl
  have hKc := hK.sub (tys' := []) [] rfl
  have hFc := va_free (wc := [(m0, .inr (12, mM kd gw fa gM 0 0 0 0 0 0 0 0 th))]) hD hS hA [0] rfl
  refine va_calli (va_runV (As := [.int a0, .int a1, .int a2]) (rest := []) ⟨hx, hb, hml, hown, hts⟩ (c_X12_isSent l dC dI s.heap.size m0 kd gw fa gM th a0 a1 a2) (cwV 3 hts (gV u_1518 u_1520 v_60 u_14 u_1521) rfl rfl rfl (by decide +kernel) ⟨Nat.le_of_ble_eq_true rfl, Nat.le_of_ble_eq_true rfl⟩) ⟨gP_blind, va_recv hKc hPc (ci := 12) (q0 := 0) rfl rfl, gP_call hPc hKc hDc hE⟩ rfl rfl hl.1 rfl (lv_room (Nat.le_of_ble_eq_true rfl)) dX12_send_4 ⟨(Nat.le_of_ble_eq_true rfl), (Nat.le_of_ble_eq_true rfl)⟩) hS (fun q _ h => hFc q h) hFc (fun r212 u9 t9 H211 locs ht hvm hw hB hz1 hk1 hS => ?_)
  obtain ⟨hP1, hK1, hD1⟩ := hB
  rw [ht] at hP1
  have hK1 := va_K.moved hvm.symm hK1
  obtain ⟨hP, hD⟩ := va_join (wr := []) (w1 := [(m0, .inr (12, mM kd gw fa gM 0 0 0 0 0 0 0 0 1))]) hP hD [0] [] rfl rfl (by decide) (by decide) hk1 hFc hP1 hD1
  have hK := (hK.sub (tys' := []) [] rfl).app hK1
  have hK : va_K (dC, dI) vwCl [] s := hK
  have hP : va_P (dC, dI) vwCl [(m0, .inr (12, mM kd gw fa gM 0 0 0 0 0 0 0 0 1))] H211 := hP
  have hD : va_D A [(m0, .inr (12, mM kd gw fa gM 0 0 0 0 0 0 0 0 1))] := hD
  subst hw
  refine lv_if_eq (tgt := 31) hx hb dX12_send_7 (by decide) (fun _ => ?_) (fun h9 => absurd (by decide) h9)
  refine lv_iconst (v := 0) hx hb dX12_send_31 (by decide) ?_
  refine W.widen (k := 0) (n := 0) (Nat.le_of_ble_eq_true rfl) (Nat.le_of_ble_eq_true rfl) ?_
  exact W.iret (v := 0) hx hb hr (fun t ht hW => ⟨⟨0, (), rfl, rfl, ⟨by rw [ht]; exact hP, va_K.moved hW.alike hK, hD⟩⟩, hS.F ht⟩) hS.2.2 dX12_send_32
set_option maxHeartbeats 4000000 in
set_option maxRecDepth 100000 in
theorem c_X12_fate (l : Launch) (dC : Nat → ClassId) (dI : Nat → Nat → Nat) (sz : Nat) (m0 : Nat) (kd : Nat) (gw : Nat) (fa : Nat) (gM : Nat → Nat) (th : Int32) (a0 : Int32) : Met l yX12_fate (Cond.code yX12_fate cX12_fate 2 (some .int) :: gU) ({ frames := 2, cells := 0, slots := 0, locals := 43 }) (gP dC dI sz [(m0, .inr (12, mM kd gw fa gM 0 0 0 0 0 0 0 0 th))] [] [.ref m0, .int a0]) (va_Qi (fun (r : Int32) (_ : Unit) => r = 0) (fun (_ : Unit) (t9 : State) => va_P (dC, dI) vwCl [(m0, .inr (12, mM kd gw fa gM 0 0 0 0 0 0 0 0 1))] t9.heap ∧ va_K (dC, dI) vwCl [] t9 ∧ va_D (va_A [(m0, .inr (12, mM kd gw fa gM 0 0 0 0 0 0 0 0 th))] sz) [(m0, .inr (12, mM kd gw fa gM 0 0 0 0 0 0 0 0 1))]) (va_A [(m0, .inr (12, mM kd gw fa gM 0 0 0 0 0 0 0 0 th))] sz)) 0 0 (va_A [(m0, .inr (12, mM kd gw fa gM 0 0 0 0 0 0 0 0 th))] sz) := by
  refine Met.ofW (cc := cX12_fate) (maxL := 2) (ret := (some .int)) (by decide) rfl ?_
  intro p e s m args below meth c s₁ B hml hv
  obtain ⟨rfl, hsz, hP, hK, hD0, hE⟩ := hv
  have hx := B.exec
  have hb := B.bytes
  have hr := B.returns
  have hts0 := atoms_spec (ws := Cond.code yX12_fate cX12_fate 2 (some .int) :: gU) B.pre
  have hts : ∀ w ∈ gU, w.before _ s = true := fun w h => hts0 w (List.mem_cons_of_mem _ h)
  have hown : s.vm.findClass RX12 = some m.cls := findClass_of_methodNamed B.named
  have hlocks := B.notSynchronized
  subst hsz
  have hD := hD0.self (sz := s.heap.size)
  generalize hAe : va_A [(m0, .inr (12, mM kd gw fa gM 0 0 0 0 0 0 0 0 th))] s.heap.size = A at hD ⊢
  have hA : ∀ q : Nat, s.heap.size ≤ q → A q := fun q h => by rw [← hAe]; exact Or.inr h
  have hS : va_S A s.heap s.heap [] := va_S.rf
  have hP : va_P (dC, dI) vwCl [(m0, .inr (12, mM kd gw fa gM 0 0 0 0 0 0 0 0 th))] s.heap := hP
  have hl := lv_entry ([.ref m0, .int a0]) (n := 2) (Nat.le_of_ble_eq_true rfl)
  rw [lg_entry_eq]
  generalize (lg_sl ([.ref m0, .int a0]) ++ List.replicate (2 - (lg_sl ([.ref m0, .int a0])).length) Slot.unset).toArray = ls at hl ⊢
  have hl : lv_has ls 2 [(0, .ref m0), (1, .int a0)] := hl
  refine lv_aload_n hx hb dX12_fate_0 rfl (lv_at hl 0 rfl) ?_
  refine lv_iload_n hx hb dX12_fate_1 rfl (lv_at hl 1 rfl) ?_
  have hPc := hP.sub (ws' := [(m0, .inr (12, mM kd gw fa gM 0 0 0 0 0 0 0 0 th))]) [0] rfl
  have hDc := hD.sub (ws' := [(m0, .inr (12, mM kd gw fa gM 0 0 0 0 0 0 0 0 th))]) [0] (by decide) rfl
  have hKc := hK.sub (tys' := []) [] rfl
  have hFc := va_free (wc := [(m0, .inr (12, mM kd gw fa gM 0 0 0 0 0 0 0 0 th))]) hD hS hA [0] rfl
  refine va_calli (va_runV (As := [.int a0]) (rest := []) ⟨hx, hb, hml, hown, hts⟩ (c_X12_isPacket l dC dI s.heap.size m0 kd gw fa gM th a0) (cwV 1 hts (gV u_1635 u_1637 v_85 u_14 u_1638) rfl rfl rfl (by decide +kernel) ⟨Nat.le_of_ble_eq_true rfl, Nat.le_of_ble_eq_true rfl⟩) ⟨gP_blind, va_recv hKc hPc (ci := 12) (q0 := 0) rfl rfl, gP_call hPc hKc hDc hE⟩ rfl rfl hl.1 rfl (lv_room (Nat.le_of_ble_eq_true rfl)) dX12_fate_2 ⟨(Nat.le_of_ble_eq_true rfl), (Nat.le_of_ble_eq_true rfl)⟩) hS (fun q _ h => hFc q h) hFc (fun r214 u9 t9 H213 locs ht hvm hw hB hz1 hk1 hS => ?_)
  obtain ⟨hP1, hK1, hD1⟩ := hB
  rw [ht] at hP1
  have hK1 := va_K.moved hvm.symm hK1
  obtain ⟨hP, hD⟩ := va_join (wr := []) (w1 := [(m0, .inr (12, mM kd gw fa gM 0 0 0 0 0 0 0 0 1))]) hP hD [0] [] rfl rfl (by decide) (by decide) hk1 hFc hP1 hD1
  have hK := (hK.sub (tys' := []) [] rfl).app hK1
  have hK : va_K (dC, dI) vwCl [] s := hK
  have hP : va_P (dC, dI) vwCl [(m0, .inr (12, mM kd gw fa gM 0 0 0 0 0 0 0 0 1))] H213 := hP
  have hD : va_D A [(m0, .inr (12, mM kd gw fa gM 0 0 0 0 0 0 0 0 1))] := hD
  subst hw
  refine lv_if_eq (tgt := 17) hx hb dX12_fate_5 (by decide) (fun _ => ?_) (fun h9 => absurd (by decide) h9)
  refine lv_iconst (v := 0) hx hb dX12_fate_17 (by decide) ?_
  refine W.widen (k := 0) (n := 0) (Nat.le_of_ble_eq_true rfl) (Nat.le_of_ble_eq_true rfl) ?_
  exact W.iret (v := 0) hx hb hr (fun t ht hW => ⟨⟨0, (), rfl, rfl, ⟨by rw [ht]; exact hP, va_K.moved hW.alike hK, hD⟩⟩, hS.F ht⟩) hS.2.2 dX12_fate_18
set_option maxHeartbeats 4000000 in
set_option maxRecDepth 100000 in
theorem c_X12_where (l : Launch) (dC : Nat → ClassId) (dI : Nat → Nat → Nat) (sz : Nat) (m0 : Nat) (kd : Nat) (gw : Nat) (fa : Nat) (gM : Nat → Nat) (th : Int32) (a0 : Int32) : Met l yX12_where (Cond.code yX12_where cX12_where 2 (some .int) :: gU) ({ frames := 2, cells := 0, slots := 0, locals := 43 }) (gP dC dI sz [(m0, .inr (12, mM kd gw fa gM 0 0 0 0 0 0 0 0 th))] [] [.ref m0, .int a0]) (va_Qi (fun (r : Int32) (_ : Unit) => r = 0) (fun (_ : Unit) (t9 : State) => va_P (dC, dI) vwCl [(m0, .inr (12, mM kd gw fa gM 0 0 0 0 0 0 0 0 1))] t9.heap ∧ va_K (dC, dI) vwCl [] t9 ∧ va_D (va_A [(m0, .inr (12, mM kd gw fa gM 0 0 0 0 0 0 0 0 th))] sz) [(m0, .inr (12, mM kd gw fa gM 0 0 0 0 0 0 0 0 1))]) (va_A [(m0, .inr (12, mM kd gw fa gM 0 0 0 0 0 0 0 0 th))] sz)) 0 0 (va_A [(m0, .inr (12, mM kd gw fa gM 0 0 0 0 0 0 0 0 th))] sz) := by
  refine Met.ofW (cc := cX12_where) (maxL := 2) (ret := (some .int)) (by decide) rfl ?_
  intro p e s m args below meth c s₁ B hml hv
  obtain ⟨rfl, hsz, hP, hK, hD0, hE⟩ := hv
  have hx := B.exec
  have hb := B.bytes
  have hr := B.returns
  have hts0 := atoms_spec (ws := Cond.code yX12_where cX12_where 2 (some .int) :: gU) B.pre
  have hts : ∀ w ∈ gU, w.before _ s = true := fun w h => hts0 w (List.mem_cons_of_mem _ h)
  have hown : s.vm.findClass RX12 = some m.cls := findClass_of_methodNamed B.named
  have hlocks := B.notSynchronized
  subst hsz
  have hD := hD0.self (sz := s.heap.size)
  generalize hAe : va_A [(m0, .inr (12, mM kd gw fa gM 0 0 0 0 0 0 0 0 th))] s.heap.size = A at hD ⊢
  have hA : ∀ q : Nat, s.heap.size ≤ q → A q := fun q h => by rw [← hAe]; exact Or.inr h
  have hS : va_S A s.heap s.heap [] := va_S.rf
  have hP : va_P (dC, dI) vwCl [(m0, .inr (12, mM kd gw fa gM 0 0 0 0 0 0 0 0 th))] s.heap := hP
  have hl := lv_entry ([.ref m0, .int a0]) (n := 2) (Nat.le_of_ble_eq_true rfl)
  rw [lg_entry_eq]
  generalize (lg_sl ([.ref m0, .int a0]) ++ List.replicate (2 - (lg_sl ([.ref m0, .int a0])).length) Slot.unset).toArray = ls at hl ⊢
  have hl : lv_has ls 2 [(0, .ref m0), (1, .int a0)] := hl
  refine lv_aload_n hx hb dX12_where_0 rfl (lv_at hl 0 rfl) ?_
  refine lv_iload_n hx hb dX12_where_1 rfl (lv_at hl 1 rfl) ?_
  have hPc := hP.sub (ws' := [(m0, .inr (12, mM kd gw fa gM 0 0 0 0 0 0 0 0 th))]) [0] rfl
  have hDc := hD.sub (ws' := [(m0, .inr (12, mM kd gw fa gM 0 0 0 0 0 0 0 0 th))]) [0] (by decide) rfl
  have hKc := hK.sub (tys' := []) [] rfl
  have hFc := va_free (wc := [(m0, .inr (12, mM kd gw fa gM 0 0 0 0 0 0 0 0 th))]) hD hS hA [0] rfl
  refine va_calli (va_runV (As := [.int a0]) (rest := []) ⟨hx, hb, hml, hown, hts⟩ (c_X12_isPacket l dC dI s.heap.size m0 kd gw fa gM th a0) (cwV 1 hts (gV u_1635 u_1637 v_85 u_14 u_1638) rfl rfl rfl (by decide +kernel) ⟨Nat.le_of_ble_eq_true rfl, Nat.le_of_ble_eq_true rfl⟩) ⟨gP_blind, va_recv hKc hPc (ci := 12) (q0 := 0) rfl rfl, gP_call hPc hKc hDc hE⟩ rfl rfl hl.1 rfl (lv_room (Nat.le_of_ble_eq_true rfl)) dX12_where_2 ⟨(Nat.le_of_ble_eq_true rfl), (Nat.le_of_ble_eq_true rfl)⟩) hS (fun q _ h => hFc q h) hFc (fun r216 u9 t9 H215 locs ht hvm hw hB hz1 hk1 hS => ?_)
  obtain ⟨hP1, hK1, hD1⟩ := hB
  rw [ht] at hP1
  have hK1 := va_K.moved hvm.symm hK1
  obtain ⟨hP, hD⟩ := va_join (wr := []) (w1 := [(m0, .inr (12, mM kd gw fa gM 0 0 0 0 0 0 0 0 1))]) hP hD [0] [] rfl rfl (by decide) (by decide) hk1 hFc hP1 hD1
  have hK := (hK.sub (tys' := []) [] rfl).app hK1
  have hK : va_K (dC, dI) vwCl [] s := hK
  have hP : va_P (dC, dI) vwCl [(m0, .inr (12, mM kd gw fa gM 0 0 0 0 0 0 0 0 1))] H215 := hP
  have hD : va_D A [(m0, .inr (12, mM kd gw fa gM 0 0 0 0 0 0 0 0 1))] := hD
  subst hw
  refine lv_if_eq (tgt := 17) hx hb dX12_where_5 (by decide) (fun _ => ?_) (fun h9 => absurd (by decide) h9)
  refine lv_iconst (v := 0) hx hb dX12_where_17 (by decide) ?_
  refine W.widen (k := 0) (n := 0) (Nat.le_of_ble_eq_true rfl) (Nat.le_of_ble_eq_true rfl) ?_
  exact W.iret (v := 0) hx hb hr (fun t ht hW => ⟨⟨0, (), rfl, rfl, ⟨by rw [ht]; exact hP, va_K.moved hW.alike hK, hD⟩⟩, hS.F ht⟩) hS.2.2 dX12_where_18
set_option maxHeartbeats 4000000 in
set_option maxRecDepth 100000 in
theorem c_X12_source (l : Launch) (dC : Nat → ClassId) (dI : Nat → Nat → Nat) (sz : Nat) (m0 : Nat) (kd : Nat) (gw : Nat) (fa : Nat) (gM : Nat → Nat) (th : Int32) (a0 : Int32) : Met l yX12_source (Cond.code yX12_source cX12_source 2 (some .int) :: gU) ({ frames := 2, cells := 0, slots := 0, locals := 43 }) (gP dC dI sz [(m0, .inr (12, mM kd gw fa gM 0 0 0 0 0 0 0 0 th))] [] [.ref m0, .int a0]) (va_Qi (fun (r : Int32) (_ : Unit) => r = 0) (fun (_ : Unit) (t9 : State) => va_P (dC, dI) vwCl [(m0, .inr (12, mM kd gw fa gM 0 0 0 0 0 0 0 0 1))] t9.heap ∧ va_K (dC, dI) vwCl [] t9 ∧ va_D (va_A [(m0, .inr (12, mM kd gw fa gM 0 0 0 0 0 0 0 0 th))] sz) [(m0, .inr (12, mM kd gw fa gM 0 0 0 0 0 0 0 0 1))]) (va_A [(m0, .inr (12, mM kd gw fa gM 0 0 0 0 0 0 0 0 th))] sz)) 0 0 (va_A [(m0, .inr (12, mM kd gw fa gM 0 0 0 0 0 0 0 0 th))] sz) := by
  refine Met.ofW (cc := cX12_source) (maxL := 2) (ret := (some .int)) (by decide) rfl ?_
  intro p e s m args below meth c s₁ B hml hv
  obtain ⟨rfl, hsz, hP, hK, hD0, hE⟩ := hv
  have hx := B.exec
  have hb := B.bytes
  have hr := B.returns
  have hts0 := atoms_spec (ws := Cond.code yX12_source cX12_source 2 (some .int) :: gU) B.pre
  have hts : ∀ w ∈ gU, w.before _ s = true := fun w h => hts0 w (List.mem_cons_of_mem _ h)
  have hown : s.vm.findClass RX12 = some m.cls := findClass_of_methodNamed B.named
  have hlocks := B.notSynchronized
  subst hsz
  have hD := hD0.self (sz := s.heap.size)
  generalize hAe : va_A [(m0, .inr (12, mM kd gw fa gM 0 0 0 0 0 0 0 0 th))] s.heap.size = A at hD ⊢
  have hA : ∀ q : Nat, s.heap.size ≤ q → A q := fun q h => by rw [← hAe]; exact Or.inr h
  have hS : va_S A s.heap s.heap [] := va_S.rf
  have hP : va_P (dC, dI) vwCl [(m0, .inr (12, mM kd gw fa gM 0 0 0 0 0 0 0 0 th))] s.heap := hP
  have hl := lv_entry ([.ref m0, .int a0]) (n := 2) (Nat.le_of_ble_eq_true rfl)
  rw [lg_entry_eq]
  generalize (lg_sl ([.ref m0, .int a0]) ++ List.replicate (2 - (lg_sl ([.ref m0, .int a0])).length) Slot.unset).toArray = ls at hl ⊢
  have hl : lv_has ls 2 [(0, .ref m0), (1, .int a0)] := hl
  refine lv_aload_n hx hb dX12_source_0 rfl (lv_at hl 0 rfl) ?_
  refine lv_iload_n hx hb dX12_source_1 rfl (lv_at hl 1 rfl) ?_
  have hPc := hP.sub (ws' := [(m0, .inr (12, mM kd gw fa gM 0 0 0 0 0 0 0 0 th))]) [0] rfl
  have hDc := hD.sub (ws' := [(m0, .inr (12, mM kd gw fa gM 0 0 0 0 0 0 0 0 th))]) [0] (by decide) rfl
  have hKc := hK.sub (tys' := []) [] rfl
  have hFc := va_free (wc := [(m0, .inr (12, mM kd gw fa gM 0 0 0 0 0 0 0 0 th))]) hD hS hA [0] rfl
  refine va_calli (va_runV (As := [.int a0]) (rest := []) ⟨hx, hb, hml, hown, hts⟩ (c_X12_isPacket l dC dI s.heap.size m0 kd gw fa gM th a0) (cwV 1 hts (gV u_1635 u_1637 v_85 u_14 u_1638) rfl rfl rfl (by decide +kernel) ⟨Nat.le_of_ble_eq_true rfl, Nat.le_of_ble_eq_true rfl⟩) ⟨gP_blind, va_recv hKc hPc (ci := 12) (q0 := 0) rfl rfl, gP_call hPc hKc hDc hE⟩ rfl rfl hl.1 rfl (lv_room (Nat.le_of_ble_eq_true rfl)) dX12_source_2 ⟨(Nat.le_of_ble_eq_true rfl), (Nat.le_of_ble_eq_true rfl)⟩) hS (fun q _ h => hFc q h) hFc (fun r218 u9 t9 H217 locs ht hvm hw hB hz1 hk1 hS => ?_)
  obtain ⟨hP1, hK1, hD1⟩ := hB
  rw [ht] at hP1
  have hK1 := va_K.moved hvm.symm hK1
  obtain ⟨hP, hD⟩ := va_join (wr := []) (w1 := [(m0, .inr (12, mM kd gw fa gM 0 0 0 0 0 0 0 0 1))]) hP hD [0] [] rfl rfl (by decide) (by decide) hk1 hFc hP1 hD1
  have hK := (hK.sub (tys' := []) [] rfl).app hK1
  have hK : va_K (dC, dI) vwCl [] s := hK
  have hP : va_P (dC, dI) vwCl [(m0, .inr (12, mM kd gw fa gM 0 0 0 0 0 0 0 0 1))] H217 := hP
  have hD : va_D A [(m0, .inr (12, mM kd gw fa gM 0 0 0 0 0 0 0 0 1))] := hD
  subst hw
  refine lv_if_eq (tgt := 17) hx hb dX12_source_5 (by decide) (fun _ => ?_) (fun h9 => absurd (by decide) h9)
  refine lv_iconst (v := 0) hx hb dX12_source_17 (by decide) ?_
  refine W.widen (k := 0) (n := 0) (Nat.le_of_ble_eq_true rfl) (Nat.le_of_ble_eq_true rfl) ?_
  exact W.iret (v := 0) hx hb hr (fun t ht hW => ⟨⟨0, (), rfl, rfl, ⟨by rw [ht]; exact hP, va_K.moved hW.alike hK, hD⟩⟩, hS.F ht⟩) hS.2.2 dX12_source_18
set_option maxHeartbeats 4000000 in
set_option maxRecDepth 100000 in
theorem c_X12_noted (l : Launch) (dC : Nat → ClassId) (dI : Nat → Nat → Nat) (sz : Nat) (m0 : Nat) (kd : Nat) (gw : Nat) (fa : Nat) (gM : Nat → Nat) (th : Int32) (a0 : Int32) (a1 : Int32) : Met l yX12_noted (Cond.code yX12_noted cX12_noted 4 (some .int) :: gU) ({ frames := 2, cells := 0, slots := 0, locals := 43 }) (gP dC dI sz [(m0, .inr (12, mM kd gw fa gM 0 0 0 0 0 0 0 0 th))] [] [.ref m0, .int a0, .int a1]) (va_Qi (fun (r : Int32) (_ : Unit) => r = 0) (fun (_ : Unit) (t9 : State) => va_P (dC, dI) vwCl [(m0, .inr (12, mM kd gw fa gM 0 0 0 0 0 0 0 0 1))] t9.heap ∧ va_K (dC, dI) vwCl [] t9 ∧ va_D (va_A [(m0, .inr (12, mM kd gw fa gM 0 0 0 0 0 0 0 0 th))] sz) [(m0, .inr (12, mM kd gw fa gM 0 0 0 0 0 0 0 0 1))]) (va_A [(m0, .inr (12, mM kd gw fa gM 0 0 0 0 0 0 0 0 th))] sz)) 0 0 (va_A [(m0, .inr (12, mM kd gw fa gM 0 0 0 0 0 0 0 0 th))] sz) := by
  refine Met.ofW (cc := cX12_noted) (maxL := 4) (ret := (some .int)) (by decide) rfl ?_
  intro p e s m args below meth c s₁ B hml hv
  obtain ⟨rfl, hsz, hP, hK, hD0, hE⟩ := hv
  have hx := B.exec
  have hb := B.bytes
  have hr := B.returns
  have hts0 := atoms_spec (ws := Cond.code yX12_noted cX12_noted 4 (some .int) :: gU) B.pre
  have hts : ∀ w ∈ gU, w.before _ s = true := fun w h => hts0 w (List.mem_cons_of_mem _ h)
  have hown : s.vm.findClass RX12 = some m.cls := findClass_of_methodNamed B.named
  have hlocks := B.notSynchronized
  subst hsz
  have hD := hD0.self (sz := s.heap.size)
  generalize hAe : va_A [(m0, .inr (12, mM kd gw fa gM 0 0 0 0 0 0 0 0 th))] s.heap.size = A at hD ⊢
  have hA : ∀ q : Nat, s.heap.size ≤ q → A q := fun q h => by rw [← hAe]; exact Or.inr h
  have hS : va_S A s.heap s.heap [] := va_S.rf
  have hP : va_P (dC, dI) vwCl [(m0, .inr (12, mM kd gw fa gM 0 0 0 0 0 0 0 0 th))] s.heap := hP
  have hl := lv_entry ([.ref m0, .int a0, .int a1]) (n := 4) (Nat.le_of_ble_eq_true rfl)
  rw [lg_entry_eq]
  generalize (lg_sl ([.ref m0, .int a0, .int a1]) ++ List.replicate (4 - (lg_sl ([.ref m0, .int a0, .int a1])).length) Slot.unset).toArray = ls at hl ⊢
  have hl : lv_has ls 4 [(0, .ref m0), (1, .int a0), (2, .int a1)] := hl
  refine lv_aload_n hx hb dX12_noted_0 rfl (lv_at hl 0 rfl) ?_
  refine lv_iload_n hx hb dX12_noted_1 rfl (lv_at hl 1 rfl) ?_
  have hPc := hP.sub (ws' := [(m0, .inr (12, mM kd gw fa gM 0 0 0 0 0 0 0 0 th))]) [0] rfl
  have hDc := hD.sub (ws' := [(m0, .inr (12, mM kd gw fa gM 0 0 0 0 0 0 0 0 th))]) [0] (by decide) rfl
  have hKc := hK.sub (tys' := []) [] rfl
  have hFc := roF hS hA
  refine va_calli (va_runV (As := [.int a0]) (rest := []) ⟨hx, hb, hml, hown, hts⟩ (c_X12_isBox l dC dI s.heap.size m0 kd gw fa gM th a0) (cwV 1 hts (gV u_1415 u_1417 v_46 u_14 u_1418) rfl rfl rfl (by decide +kernel) ⟨Nat.le_of_ble_eq_true rfl, Nat.le_of_ble_eq_true rfl⟩) ⟨gP_blind, va_recv hKc hPc (ci := 12) (q0 := 0) rfl rfl, gP_call hPc hKc hDc hE⟩ rfl rfl hl.1 rfl (lv_room (Nat.le_of_ble_eq_true rfl)) dX12_noted_2 ⟨(Nat.le_of_ble_eq_true rfl), (Nat.le_of_ble_eq_true rfl)⟩) hS (fun q _ h => hFc q h) hFc (fun r220 u9 t9 H219 locs ht hvm hw hB hz1 hk1 hS => ?_)
  have hP := roP hP hk1
  subst hw
  refine lv_if_eq (tgt := 20) hx hb dX12_noted_5 (by decide) (fun _ => ?_) (fun h9 => absurd (by decide) h9)
  refine lv_iconst (v := 0) hx hb dX12_noted_20 (by decide) ?_
  refine lv_istore_n (lv' := [(3, .int 0), (0, .ref m0), (1, .int a0), (2, .int a1)]) hx hb dX12_noted_21 rfl hl (by decide) rfl (fun ls hl => ?_)
  refine lv_aload_n hx hb dX12_noted_22 rfl (lv_at hl 1 rfl) ?_
  refine lv_iload_n hx hb dX12_noted_23 rfl (lv_at hl 0 rfl) ?_
  refine lv_if_ne (tgt := 31) hx hb dX12_noted_24 (by decide) (fun h9 => absurd (by decide) h9) (fun _ => ?_)
  refine lv_iconst (v := 1) hx hb dX12_noted_27 (by decide) ?_
  refine lv_goto (tgt := 54) hx hb dX12_noted_28 (by decide) ?_
  have hPc := hP.sub (ws' := [(m0, .inr (12, mM kd gw fa gM 0 0 0 0 0 0 0 0 th))]) [0] rfl
  have hDc := hD.sub (ws' := [(m0, .inr (12, mM kd gw fa gM 0 0 0 0 0 0 0 0 th))]) [0] (by decide) rfl
  have hKc := hK.sub (tys' := []) [] rfl
  have hFc := va_free (wc := [(m0, .inr (12, mM kd gw fa gM 0 0 0 0 0 0 0 0 th))]) hD hS hA [0] rfl
  refine va_calli (va_runV (As := [.int 1]) (rest := []) ⟨hx, hb, hml, hown, hts⟩ (c_X12_can l dC dI H219.size m0 kd gw fa gM th 1) (cwV 1 hts (gV u_1403 u_1405 v_44 u_14 u_1406) rfl rfl rfl (by decide +kernel) ⟨Nat.le_of_ble_eq_true rfl, Nat.le_of_ble_eq_true rfl⟩) ⟨gP_blind, va_recv hKc hPc (ci := 12) (q0 := 0) rfl rfl, gP_call hPc hKc hDc hE⟩ rfl rfl hl.1 rfl (lv_room (Nat.le_of_ble_eq_true rfl)) dX12_noted_54 ⟨(Nat.le_of_ble_eq_true rfl), (Nat.le_of_ble_eq_true rfl)⟩) hS (fun q _ h => hFc q h) hFc (fun r222 u9 t9 H221 locs ht hvm hw hB hz1 hk1 hS => ?_)
  obtain ⟨hP1, hK1, hD1⟩ := hB
  rw [ht] at hP1
  have hK1 := va_K.moved hvm.symm hK1
  obtain ⟨hP, hD⟩ := va_join (wr := []) (w1 := [(m0, .inr (12, mM kd gw fa gM 0 0 0 0 0 0 0 0 1))]) hP hD [0] [] rfl rfl (by decide) (by decide) hk1 hFc hP1 hD1
  have hK := (hK.sub (tys' := []) [] rfl).app hK1
  have hK : va_K (dC, dI) vwCl [] s := hK
  have hP : va_P (dC, dI) vwCl [(m0, .inr (12, mM kd gw fa gM 0 0 0 0 0 0 0 0 1))] H221 := hP
  have hD : va_D A [(m0, .inr (12, mM kd gw fa gM 0 0 0 0 0 0 0 0 1))] := hD
  subst hw
  rw [show gCan 1 = 0 from by decide]
  refine lv_if_ne (tgt := 62) hx hb dX12_noted_57 (by decide) (fun h9 => absurd (by decide) h9) (fun _ => ?_)
  refine lv_iconst (v := 0) hx hb dX12_noted_60 (by decide) ?_
  refine W.widen (k := 0) (n := 0) (Nat.le_of_ble_eq_true rfl) (Nat.le_of_ble_eq_true rfl) ?_
  exact W.iret (v := 0) hx hb hr (fun t ht hW => ⟨⟨0, (), rfl, rfl, ⟨by rw [ht]; exact hP, va_K.moved hW.alike hK, hD⟩⟩, hS.F ht⟩) hS.2.2 dX12_noted_61
set_option maxHeartbeats 4000000 in
set_option maxRecDepth 100000 in
theorem c_X12_learnt (l : Launch) (dC : Nat → ClassId) (dI : Nat → Nat → Nat) (sz : Nat) (m0 : Nat) (kd : Nat) (gw : Nat) (fa : Nat) (gM : Nat → Nat) (th : Int32) (a0 : Int32) (a1 : Int32) (a2 : Int32) : Met l yX12_learnt (Cond.code yX12_learnt cX12_learnt 5 (some .int) :: gU) ({ frames := 2, cells := 0, slots := 0, locals := 43 }) (gP dC dI sz [(m0, .inr (12, mM kd gw fa gM 0 0 0 0 0 0 0 0 th))] [] [.ref m0, .int a0, .int a1, .int a2]) (va_Qi (fun (r : Int32) (_ : Unit) => r = 0) (fun (_ : Unit) (t9 : State) => va_P (dC, dI) vwCl [(m0, .inr (12, mM kd gw fa gM 0 0 0 0 0 0 0 0 1))] t9.heap ∧ va_K (dC, dI) vwCl [] t9 ∧ va_D (va_A [(m0, .inr (12, mM kd gw fa gM 0 0 0 0 0 0 0 0 th))] sz) [(m0, .inr (12, mM kd gw fa gM 0 0 0 0 0 0 0 0 1))]) (va_A [(m0, .inr (12, mM kd gw fa gM 0 0 0 0 0 0 0 0 th))] sz)) 0 0 (va_A [(m0, .inr (12, mM kd gw fa gM 0 0 0 0 0 0 0 0 th))] sz) := by
  refine Met.ofW (cc := cX12_learnt) (maxL := 5) (ret := (some .int)) (by decide) rfl ?_
  intro p e s m args below meth c s₁ B hml hv
  obtain ⟨rfl, hsz, hP, hK, hD0, hE⟩ := hv
  have hx := B.exec
  have hb := B.bytes
  have hr := B.returns
  have hts0 := atoms_spec (ws := Cond.code yX12_learnt cX12_learnt 5 (some .int) :: gU) B.pre
  have hts : ∀ w ∈ gU, w.before _ s = true := fun w h => hts0 w (List.mem_cons_of_mem _ h)
  have hown : s.vm.findClass RX12 = some m.cls := findClass_of_methodNamed B.named
  have hlocks := B.notSynchronized
  subst hsz
  have hD := hD0.self (sz := s.heap.size)
  generalize hAe : va_A [(m0, .inr (12, mM kd gw fa gM 0 0 0 0 0 0 0 0 th))] s.heap.size = A at hD ⊢
  have hA : ∀ q : Nat, s.heap.size ≤ q → A q := fun q h => by rw [← hAe]; exact Or.inr h
  have hS : va_S A s.heap s.heap [] := va_S.rf
  have hP : va_P (dC, dI) vwCl [(m0, .inr (12, mM kd gw fa gM 0 0 0 0 0 0 0 0 th))] s.heap := hP
  have hl := lv_entry ([.ref m0, .int a0, .int a1, .int a2]) (n := 5) (Nat.le_of_ble_eq_true rfl)
  rw [lg_entry_eq]
  generalize (lg_sl ([.ref m0, .int a0, .int a1, .int a2]) ++ List.replicate (5 - (lg_sl ([.ref m0, .int a0, .int a1, .int a2])).length) Slot.unset).toArray = ls at hl ⊢
  have hl : lv_has ls 5 [(0, .ref m0), (1, .int a0), (2, .int a1), (3, .int a2)] := hl
  refine lv_aload_n hx hb dX12_learnt_0 rfl (lv_at hl 0 rfl) ?_
  refine lv_aload_n hx hb dX12_learnt_1 rfl (lv_at hl 0 rfl) ?_
  refine lv_iload_n hx hb dX12_learnt_2 rfl (lv_at hl 1 rfl) ?_
  have hPc := hP.sub (ws' := [(m0, .inr (12, mM kd gw fa gM 0 0 0 0 0 0 0 0 th))]) [0] rfl
  have hDc := hD.sub (ws' := [(m0, .inr (12, mM kd gw fa gM 0 0 0 0 0 0 0 0 th))]) [0] (by decide) rfl
  have hKc := hK.sub (tys' := []) [] rfl
  have hFc := roF hS hA
  refine va_calli (va_runV (As := [.int a0]) (rest := [.ref m0]) ⟨hx, hb, hml, hown, hts⟩ (c_X12_isBox l dC dI s.heap.size m0 kd gw fa gM th a0) (cwV 1 hts (gV u_1415 u_1417 v_46 u_14 u_1418) rfl rfl rfl (by decide +kernel) ⟨Nat.le_of_ble_eq_true rfl, Nat.le_of_ble_eq_true rfl⟩) ⟨gP_blind, va_recv hKc hPc (ci := 12) (q0 := 0) rfl rfl, gP_call hPc hKc hDc hE⟩ rfl rfl hl.1 rfl (lv_room (Nat.le_of_ble_eq_true rfl)) dX12_learnt_3 ⟨(Nat.le_of_ble_eq_true rfl), (Nat.le_of_ble_eq_true rfl)⟩) hS (fun q _ h => hFc q h) hFc (fun r224 u9 t9 H223 locs ht hvm hw hB hz1 hk1 hS => ?_)
  have hP := roP hP hk1
  subst hw
  refine lv_if_ne (tgt := 13) hx hb dX12_learnt_6 (by decide) (fun h9 => absurd (by decide) h9) (fun _ => ?_)
  refine lv_iconst (v := 1) hx hb dX12_learnt_9 (by decide) ?_
  refine lv_goto (tgt := 44) hx hb dX12_learnt_10 (by decide) ?_
  have hPc := hP.sub (ws' := [(m0, .inr (12, mM kd gw fa gM 0 0 0 0 0 0 0 0 th))]) [0] rfl
  have hDc := hD.sub (ws' := [(m0, .inr (12, mM kd gw fa gM 0 0 0 0 0 0 0 0 th))]) [0] (by decide) rfl
  have hKc := hK.sub (tys' := []) [] rfl
  have hFc := va_free (wc := [(m0, .inr (12, mM kd gw fa gM 0 0 0 0 0 0 0 0 th))]) hD hS hA [0] rfl
  refine va_calli (va_runV (As := [.int 1]) (rest := []) ⟨hx, hb, hml, hown, hts⟩ (c_X12_can l dC dI H223.size m0 kd gw fa gM th 1) (cwV 1 hts (gV u_1403 u_1405 v_44 u_14 u_1406) rfl rfl rfl (by decide +kernel) ⟨Nat.le_of_ble_eq_true rfl, Nat.le_of_ble_eq_true rfl⟩) ⟨gP_blind, va_recv hKc hPc (ci := 12) (q0 := 0) rfl rfl, gP_call hPc hKc hDc hE⟩ rfl rfl hl.1 rfl (lv_room (Nat.le_of_ble_eq_true rfl)) dX12_learnt_44 ⟨(Nat.le_of_ble_eq_true rfl), (Nat.le_of_ble_eq_true rfl)⟩) hS (fun q _ h => hFc q h) hFc (fun r226 u9 t9 H225 locs ht hvm hw hB hz1 hk1 hS => ?_)
  obtain ⟨hP1, hK1, hD1⟩ := hB
  rw [ht] at hP1
  have hK1 := va_K.moved hvm.symm hK1
  obtain ⟨hP, hD⟩ := va_join (wr := []) (w1 := [(m0, .inr (12, mM kd gw fa gM 0 0 0 0 0 0 0 0 1))]) hP hD [0] [] rfl rfl (by decide) (by decide) hk1 hFc hP1 hD1
  have hK := (hK.sub (tys' := []) [] rfl).app hK1
  have hK : va_K (dC, dI) vwCl [] s := hK
  have hP : va_P (dC, dI) vwCl [(m0, .inr (12, mM kd gw fa gM 0 0 0 0 0 0 0 0 1))] H225 := hP
  have hD : va_D A [(m0, .inr (12, mM kd gw fa gM 0 0 0 0 0 0 0 0 1))] := hD
  subst hw
  rw [show gCan 1 = 0 from by decide]
  refine lv_if_ne (tgt := 52) hx hb dX12_learnt_47 (by decide) (fun h9 => absurd (by decide) h9) (fun _ => ?_)
  refine lv_iconst (v := 0) hx hb dX12_learnt_50 (by decide) ?_
  refine W.widen (k := 0) (n := 0) (Nat.le_of_ble_eq_true rfl) (Nat.le_of_ble_eq_true rfl) ?_
  exact W.iret (v := 0) hx hb hr (fun t ht hW => ⟨⟨0, (), rfl, rfl, ⟨by rw [ht]; exact hP, va_K.moved hW.alike hK, hD⟩⟩, hS.F ht⟩) hS.2.2 dX12_learnt_51
set_option maxHeartbeats 4000000 in
set_option maxRecDepth 100000 in
theorem c_X12_reach (l : Launch) (dC : Nat → ClassId) (dI : Nat → Nat → Nat) (sz : Nat) (m0 : Nat) (kd : Nat) (gw : Nat) (fa : Nat) (gM : Nat → Nat) (th : Int32) (a0 : Int32) (a1 : Int32) : Met l yX12_reach (Cond.code yX12_reach cX12_reach 3 (some .int) :: gU) ({ frames := 3, cells := 0, slots := 0, locals := 67 }) (gP dC dI sz [(m0, .inr (12, mM kd gw fa gM 0 0 0 0 0 0 0 0 th))] [] [.ref m0, .int a0, .int a1]) (va_Qi (fun (r : Int32) (_ : Unit) => r = 0) (fun (_ : Unit) (t9 : State) => va_P (dC, dI) vwCl [(m0, .inr (12, mM kd gw fa gM 0 0 0 0 0 0 0 0 1))] t9.heap ∧ va_K (dC, dI) vwCl [] t9 ∧ va_D (va_A [(m0, .inr (12, mM kd gw fa gM 0 0 0 0 0 0 0 0 th))] sz) [(m0, .inr (12, mM kd gw fa gM 0 0 0 0 0 0 0 0 1))]) (va_A [(m0, .inr (12, mM kd gw fa gM 0 0 0 0 0 0 0 0 th))] sz)) 0 0 (va_A [(m0, .inr (12, mM kd gw fa gM 0 0 0 0 0 0 0 0 th))] sz) := by
  refine Met.ofW (cc := cX12_reach) (maxL := 3) (ret := (some .int)) (by decide) rfl ?_
  intro p e s m args below meth c s₁ B hml hv
  obtain ⟨rfl, hsz, hP, hK, hD0, hE⟩ := hv
  have hx := B.exec
  have hb := B.bytes
  have hr := B.returns
  have hts0 := atoms_spec (ws := Cond.code yX12_reach cX12_reach 3 (some .int) :: gU) B.pre
  have hts : ∀ w ∈ gU, w.before _ s = true := fun w h => hts0 w (List.mem_cons_of_mem _ h)
  have hown : s.vm.findClass RX12 = some m.cls := findClass_of_methodNamed B.named
  have hlocks := B.notSynchronized
  subst hsz
  have hD := hD0.self (sz := s.heap.size)
  generalize hAe : va_A [(m0, .inr (12, mM kd gw fa gM 0 0 0 0 0 0 0 0 th))] s.heap.size = A at hD ⊢
  have hA : ∀ q : Nat, s.heap.size ≤ q → A q := fun q h => by rw [← hAe]; exact Or.inr h
  have hS : va_S A s.heap s.heap [] := va_S.rf
  have hP : va_P (dC, dI) vwCl [(m0, .inr (12, mM kd gw fa gM 0 0 0 0 0 0 0 0 th))] s.heap := hP
  have hl := lv_entry ([.ref m0, .int a0, .int a1]) (n := 3) (Nat.le_of_ble_eq_true rfl)
  rw [lg_entry_eq]
  generalize (lg_sl ([.ref m0, .int a0, .int a1]) ++ List.replicate (3 - (lg_sl ([.ref m0, .int a0, .int a1])).length) Slot.unset).toArray = ls at hl ⊢
  have hl : lv_has ls 3 [(0, .ref m0), (1, .int a0), (2, .int a1)] := hl
  refine lv_aload_n hx hb dX12_reach_0 rfl (lv_at hl 0 rfl) ?_
  refine lv_iload_n hx hb dX12_reach_1 rfl (lv_at hl 1 rfl) ?_
  refine lv_iload_n hx hb dX12_reach_2 rfl (lv_at hl 2 rfl) ?_
  have hPc := hP.sub (ws' := [(m0, .inr (12, mM kd gw fa gM 0 0 0 0 0 0 0 0 th))]) [0] rfl
  have hDc := hD.sub (ws' := [(m0, .inr (12, mM kd gw fa gM 0 0 0 0 0 0 0 0 th))]) [0] (by decide) rfl
  have hKc := hK.sub (tys' := []) [] rfl
  have hFc := va_free (wc := [(m0, .inr (12, mM kd gw fa gM 0 0 0 0 0 0 0 0 th))]) hD hS hA [0] rfl
  refine va_calli (va_runV (As := [.int a0, .int a1]) (rest := []) ⟨hx, hb, hml, hown, hts⟩ (c_X12_reaches l dC dI s.heap.size m0 kd gw fa gM th a0 a1) (cwV 2 hts (gV u_1663 u_1665 v_86 u_14 u_1666) rfl rfl rfl (by decide +kernel) ⟨Nat.le_of_ble_eq_true rfl, Nat.le_of_ble_eq_true rfl⟩) ⟨gP_blind, va_recv hKc hPc (ci := 12) (q0 := 0) rfl rfl, gP_call hPc hKc hDc hE⟩ rfl rfl hl.1 rfl (lv_room (Nat.le_of_ble_eq_true rfl)) dX12_reach_3 ⟨(Nat.le_of_ble_eq_true rfl), (Nat.le_of_ble_eq_true rfl)⟩) hS (fun q _ h => hFc q h) hFc (fun r228 u9 t9 H227 locs ht hvm hw hB hz1 hk1 hS => ?_)
  obtain ⟨hP1, hK1, hD1⟩ := hB
  rw [ht] at hP1
  have hK1 := va_K.moved hvm.symm hK1
  obtain ⟨hP, hD⟩ := va_join (wr := []) (w1 := [(m0, .inr (12, mM kd gw fa gM 0 0 0 0 0 0 0 0 1))]) hP hD [0] [] rfl rfl (by decide) (by decide) hk1 hFc hP1 hD1
  have hK := (hK.sub (tys' := []) [] rfl).app hK1
  have hK : va_K (dC, dI) vwCl [] s := hK
  have hP : va_P (dC, dI) vwCl [(m0, .inr (12, mM kd gw fa gM 0 0 0 0 0 0 0 0 1))] H227 := hP
  have hD : va_D A [(m0, .inr (12, mM kd gw fa gM 0 0 0 0 0 0 0 0 1))] := hD
  subst hw
  refine W.widen (k := 0) (n := 0) (Nat.le_of_ble_eq_true rfl) (Nat.le_of_ble_eq_true rfl) ?_
  exact W.iret (v := 0) hx hb hr (fun t ht hW => ⟨⟨0, (), rfl, rfl, ⟨by rw [ht]; exact hP, va_K.moved hW.alike hK, hD⟩⟩, hS.F ht⟩) hS.2.2 dX12_reach_6
set_option maxHeartbeats 4000000 in
set_option maxRecDepth 100000 in
theorem c_X12_reachAnew (l : Launch) (dC : Nat → ClassId) (dI : Nat → Nat → Nat) (sz : Nat) (m0 : Nat) (kd : Nat) (gw : Nat) (fa : Nat) (gM : Nat → Nat) (th : Int32) (a0 : Int32) (a1 : Int32) : Met l yX12_reachAnew (Cond.code yX12_reachAnew cX12_reachAnew 3 (some .int) :: gU) ({ frames := 3, cells := 0, slots := 0, locals := 67 }) (gP dC dI sz [(m0, .inr (12, mM kd gw fa gM 0 0 0 0 0 0 0 0 th))] [] [.ref m0, .int a0, .int a1]) (va_Qi (fun (r : Int32) (_ : Unit) => r = 0) (fun (_ : Unit) (t9 : State) => va_P (dC, dI) vwCl [(m0, .inr (12, mM kd gw fa gM 0 0 0 0 0 0 0 0 1))] t9.heap ∧ va_K (dC, dI) vwCl [] t9 ∧ va_D (va_A [(m0, .inr (12, mM kd gw fa gM 0 0 0 0 0 0 0 0 th))] sz) [(m0, .inr (12, mM kd gw fa gM 0 0 0 0 0 0 0 0 1))]) (va_A [(m0, .inr (12, mM kd gw fa gM 0 0 0 0 0 0 0 0 th))] sz)) 0 0 (va_A [(m0, .inr (12, mM kd gw fa gM 0 0 0 0 0 0 0 0 th))] sz) := by
  refine Met.ofW (cc := cX12_reachAnew) (maxL := 3) (ret := (some .int)) (by decide) rfl ?_
  intro p e s m args below meth c s₁ B hml hv
  obtain ⟨rfl, hsz, hP, hK, hD0, hE⟩ := hv
  have hx := B.exec
  have hb := B.bytes
  have hr := B.returns
  have hts0 := atoms_spec (ws := Cond.code yX12_reachAnew cX12_reachAnew 3 (some .int) :: gU) B.pre
  have hts : ∀ w ∈ gU, w.before _ s = true := fun w h => hts0 w (List.mem_cons_of_mem _ h)
  have hown : s.vm.findClass RX12 = some m.cls := findClass_of_methodNamed B.named
  have hlocks := B.notSynchronized
  subst hsz
  have hD := hD0.self (sz := s.heap.size)
  generalize hAe : va_A [(m0, .inr (12, mM kd gw fa gM 0 0 0 0 0 0 0 0 th))] s.heap.size = A at hD ⊢
  have hA : ∀ q : Nat, s.heap.size ≤ q → A q := fun q h => by rw [← hAe]; exact Or.inr h
  have hS : va_S A s.heap s.heap [] := va_S.rf
  have hP : va_P (dC, dI) vwCl [(m0, .inr (12, mM kd gw fa gM 0 0 0 0 0 0 0 0 th))] s.heap := hP
  have hl := lv_entry ([.ref m0, .int a0, .int a1]) (n := 3) (Nat.le_of_ble_eq_true rfl)
  rw [lg_entry_eq]
  generalize (lg_sl ([.ref m0, .int a0, .int a1]) ++ List.replicate (3 - (lg_sl ([.ref m0, .int a0, .int a1])).length) Slot.unset).toArray = ls at hl ⊢
  have hl : lv_has ls 3 [(0, .ref m0), (1, .int a0), (2, .int a1)] := hl
  refine lv_aload_n hx hb dX12_reachAnew_0 rfl (lv_at hl 0 rfl) ?_
  refine lv_iload_n hx hb dX12_reachAnew_1 rfl (lv_at hl 1 rfl) ?_
  refine lv_iload_n hx hb dX12_reachAnew_2 rfl (lv_at hl 2 rfl) ?_
  have hPc := hP.sub (ws' := [(m0, .inr (12, mM kd gw fa gM 0 0 0 0 0 0 0 0 th))]) [0] rfl
  have hDc := hD.sub (ws' := [(m0, .inr (12, mM kd gw fa gM 0 0 0 0 0 0 0 0 th))]) [0] (by decide) rfl
  have hKc := hK.sub (tys' := []) [] rfl
  have hFc := va_free (wc := [(m0, .inr (12, mM kd gw fa gM 0 0 0 0 0 0 0 0 th))]) hD hS hA [0] rfl
  refine va_calli (va_runV (As := [.int a0, .int a1]) (rest := []) ⟨hx, hb, hml, hown, hts⟩ (c_X12_reaches l dC dI s.heap.size m0 kd gw fa gM th a0 a1) (cwV 2 hts (gV u_1663 u_1665 v_86 u_14 u_1666) rfl rfl rfl (by decide +kernel) ⟨Nat.le_of_ble_eq_true rfl, Nat.le_of_ble_eq_true rfl⟩) ⟨gP_blind, va_recv hKc hPc (ci := 12) (q0 := 0) rfl rfl, gP_call hPc hKc hDc hE⟩ rfl rfl hl.1 rfl (lv_room (Nat.le_of_ble_eq_true rfl)) dX12_reachAnew_3 ⟨(Nat.le_of_ble_eq_true rfl), (Nat.le_of_ble_eq_true rfl)⟩) hS (fun q _ h => hFc q h) hFc (fun r230 u9 t9 H229 locs ht hvm hw hB hz1 hk1 hS => ?_)
  obtain ⟨hP1, hK1, hD1⟩ := hB
  rw [ht] at hP1
  have hK1 := va_K.moved hvm.symm hK1
  obtain ⟨hP, hD⟩ := va_join (wr := []) (w1 := [(m0, .inr (12, mM kd gw fa gM 0 0 0 0 0 0 0 0 1))]) hP hD [0] [] rfl rfl (by decide) (by decide) hk1 hFc hP1 hD1
  have hK := (hK.sub (tys' := []) [] rfl).app hK1
  have hK : va_K (dC, dI) vwCl [] s := hK
  have hP : va_P (dC, dI) vwCl [(m0, .inr (12, mM kd gw fa gM 0 0 0 0 0 0 0 0 1))] H229 := hP
  have hD : va_D A [(m0, .inr (12, mM kd gw fa gM 0 0 0 0 0 0 0 0 1))] := hD
  subst hw
  refine W.widen (k := 0) (n := 0) (Nat.le_of_ble_eq_true rfl) (Nat.le_of_ble_eq_true rfl) ?_
  exact W.iret (v := 0) hx hb hr (fun t ht hW => ⟨⟨0, (), rfl, rfl, ⟨by rw [ht]; exact hP, va_K.moved hW.alike hK, hD⟩⟩, hS.F ht⟩) hS.2.2 dX12_reachAnew_6
set_option maxHeartbeats 4000000 in
set_option maxRecDepth 100000 in
theorem c_X12_proved (l : Launch) (dC : Nat → ClassId) (dI : Nat → Nat → Nat) (sz : Nat) (m0 : Nat) (kd : Nat) (gw : Nat) (fa : Nat) (gM : Nat → Nat) (th : Int32) (a0 : Int32) (a1 : Int32) (a2 : Int32) : Met l yX12_proved (Cond.code yX12_proved cX12_proved 4 (some .int) :: gU) ({ frames := 3, cells := 0, slots := 0, locals := 66 }) (gP dC dI sz [(m0, .inr (12, mM kd gw fa gM 0 0 0 0 0 0 0 0 th))] [] [.ref m0, .int a0, .int a1, .int a2]) (va_Qi (fun (r : Int32) (_ : Unit) => r = 0) (fun (_ : Unit) (t9 : State) => va_P (dC, dI) vwCl [(m0, .inr (12, mM kd gw fa gM 0 0 0 0 0 0 0 0 1))] t9.heap ∧ va_K (dC, dI) vwCl [] t9 ∧ va_D (va_A [(m0, .inr (12, mM kd gw fa gM 0 0 0 0 0 0 0 0 th))] sz) [(m0, .inr (12, mM kd gw fa gM 0 0 0 0 0 0 0 0 1))]) (va_A [(m0, .inr (12, mM kd gw fa gM 0 0 0 0 0 0 0 0 th))] sz)) 0 0 (va_A [(m0, .inr (12, mM kd gw fa gM 0 0 0 0 0 0 0 0 th))] sz) := by
  refine Met.ofW (cc := cX12_proved) (maxL := 4) (ret := (some .int)) (by decide) rfl ?_
  intro p e s m args below meth c s₁ B hml hv
  obtain ⟨rfl, hsz, hP, hK, hD0, hE⟩ := hv
  have hx := B.exec
  have hb := B.bytes
  have hr := B.returns
  have hts0 := atoms_spec (ws := Cond.code yX12_proved cX12_proved 4 (some .int) :: gU) B.pre
  have hts : ∀ w ∈ gU, w.before _ s = true := fun w h => hts0 w (List.mem_cons_of_mem _ h)
  have hown : s.vm.findClass RX12 = some m.cls := findClass_of_methodNamed B.named
  have hlocks := B.notSynchronized
  subst hsz
  have hD := hD0.self (sz := s.heap.size)
  generalize hAe : va_A [(m0, .inr (12, mM kd gw fa gM 0 0 0 0 0 0 0 0 th))] s.heap.size = A at hD ⊢
  have hA : ∀ q : Nat, s.heap.size ≤ q → A q := fun q h => by rw [← hAe]; exact Or.inr h
  have hS : va_S A s.heap s.heap [] := va_S.rf
  have hP : va_P (dC, dI) vwCl [(m0, .inr (12, mM kd gw fa gM 0 0 0 0 0 0 0 0 th))] s.heap := hP
  have hl := lv_entry ([.ref m0, .int a0, .int a1, .int a2]) (n := 4) (Nat.le_of_ble_eq_true rfl)
  rw [lg_entry_eq]
  generalize (lg_sl ([.ref m0, .int a0, .int a1, .int a2]) ++ List.replicate (4 - (lg_sl ([.ref m0, .int a0, .int a1, .int a2])).length) Slot.unset).toArray = ls at hl ⊢
  have hl : lv_has ls 4 [(0, .ref m0), (1, .int a0), (2, .int a1), (3, .int a2)] := hl
  refine lv_aload_n hx hb dX12_proved_0 rfl (lv_at hl 0 rfl) ?_
  refine lv_iload_n hx hb dX12_proved_1 rfl (lv_at hl 1 rfl) ?_
  refine lv_iload_n hx hb dX12_proved_2 rfl (lv_at hl 2 rfl) ?_
  refine lv_iload_n hx hb dX12_proved_3 rfl (lv_at hl 3 rfl) ?_
  have hPc := hP.sub (ws' := [(m0, .inr (12, mM kd gw fa gM 0 0 0 0 0 0 0 0 th))]) [0] rfl
  have hDc := hD.sub (ws' := [(m0, .inr (12, mM kd gw fa gM 0 0 0 0 0 0 0 0 th))]) [0] (by decide) rfl
  have hKc := hK.sub (tys' := []) [] rfl
  have hFc := va_free (wc := [(m0, .inr (12, mM kd gw fa gM 0 0 0 0 0 0 0 0 th))]) hD hS hA [0] rfl
  refine va_calli (va_runV (As := [.int a0, .int a1, .int a2]) (rest := []) ⟨hx, hb, hml, hown, hts⟩ (c_X12_isSent l dC dI s.heap.size m0 kd gw fa gM th a0 a1 a2) (cwV 3 hts (gV u_1518 u_1520 v_60 u_14 u_1521) rfl rfl rfl (by decide +kernel) ⟨Nat.le_of_ble_eq_true rfl, Nat.le_of_ble_eq_true rfl⟩) ⟨gP_blind, va_recv hKc hPc (ci := 12) (q0 := 0) rfl rfl, gP_call hPc hKc hDc hE⟩ rfl rfl hl.1 rfl (lv_room (Nat.le_of_ble_eq_true rfl)) dX12_proved_4 ⟨(Nat.le_of_ble_eq_true rfl), (Nat.le_of_ble_eq_true rfl)⟩) hS (fun q _ h => hFc q h) hFc (fun r232 u9 t9 H231 locs ht hvm hw hB hz1 hk1 hS => ?_)
  obtain ⟨hP1, hK1, hD1⟩ := hB
  rw [ht] at hP1
  have hK1 := va_K.moved hvm.symm hK1
  obtain ⟨hP, hD⟩ := va_join (wr := []) (w1 := [(m0, .inr (12, mM kd gw fa gM 0 0 0 0 0 0 0 0 1))]) hP hD [0] [] rfl rfl (by decide) (by decide) hk1 hFc hP1 hD1
  have hK := (hK.sub (tys' := []) [] rfl).app hK1
  have hK : va_K (dC, dI) vwCl [] s := hK
  have hP : va_P (dC, dI) vwCl [(m0, .inr (12, mM kd gw fa gM 0 0 0 0 0 0 0 0 1))] H231 := hP
  have hD : va_D A [(m0, .inr (12, mM kd gw fa gM 0 0 0 0 0 0 0 0 1))] := hD
  subst hw
  refine lv_if_ne (tgt := 12) hx hb dX12_proved_7 (by decide) (fun h9 => absurd (by decide) h9) (fun _ => ?_)
  refine lv_iconst (v := 0) hx hb dX12_proved_10 (by decide) ?_
  refine W.widen (k := 0) (n := 0) (Nat.le_of_ble_eq_true rfl) (Nat.le_of_ble_eq_true rfl) ?_
  exact W.iret (v := 0) hx hb hr (fun t ht hW => ⟨⟨0, (), rfl, rfl, ⟨by rw [ht]; exact hP, va_K.moved hW.alike hK, hD⟩⟩, hS.F ht⟩) hS.2.2 dX12_proved_11
set_option maxHeartbeats 4000000 in
set_option maxRecDepth 100000 in
theorem c_X12_way (l : Launch) (dC : Nat → ClassId) (dI : Nat → Nat → Nat) (sz : Nat) (m0 : Nat) (kd : Nat) (gw : Nat) (fa : Nat) (gM : Nat → Nat) (th : Int32) (a0 : Int32) (a1 : Int32) (a2 : Int32) (a3 : Int32) : Met l yX12_way (Cond.code yX12_way cX12_way 7 (some .int) :: gU) ({ frames := 2, cells := 0, slots := 0, locals := 43 }) (gP dC dI sz [(m0, .inr (12, mM kd gw fa gM 0 0 0 0 0 0 0 0 th))] [] [.ref m0, .int a0, .int a1, .int a2, .int a3]) (va_Qi (fun (r : Int32) (_ : Unit) => r = 0) (fun (_ : Unit) (t9 : State) => va_P (dC, dI) vwCl [(m0, .inr (12, mM kd gw fa gM 0 0 0 0 0 0 0 0 1))] t9.heap ∧ va_K (dC, dI) vwCl [] t9 ∧ va_D (va_A [(m0, .inr (12, mM kd gw fa gM 0 0 0 0 0 0 0 0 th))] sz) [(m0, .inr (12, mM kd gw fa gM 0 0 0 0 0 0 0 0 1))]) (va_A [(m0, .inr (12, mM kd gw fa gM 0 0 0 0 0 0 0 0 th))] sz)) 0 0 (va_A [(m0, .inr (12, mM kd gw fa gM 0 0 0 0 0 0 0 0 th))] sz) := by
  refine Met.ofW (cc := cX12_way) (maxL := 7) (ret := (some .int)) (by decide) rfl ?_
  intro p e s m args below meth c s₁ B hml hv
  obtain ⟨rfl, hsz, hP, hK, hD0, hE⟩ := hv
  have hx := B.exec
  have hb := B.bytes
  have hr := B.returns
  have hts0 := atoms_spec (ws := Cond.code yX12_way cX12_way 7 (some .int) :: gU) B.pre
  have hts : ∀ w ∈ gU, w.before _ s = true := fun w h => hts0 w (List.mem_cons_of_mem _ h)
  have hown : s.vm.findClass RX12 = some m.cls := findClass_of_methodNamed B.named
  have hlocks := B.notSynchronized
  subst hsz
  have hD := hD0.self (sz := s.heap.size)
  generalize hAe : va_A [(m0, .inr (12, mM kd gw fa gM 0 0 0 0 0 0 0 0 th))] s.heap.size = A at hD ⊢
  have hA : ∀ q : Nat, s.heap.size ≤ q → A q := fun q h => by rw [← hAe]; exact Or.inr h
  have hS : va_S A s.heap s.heap [] := va_S.rf
  have hP : va_P (dC, dI) vwCl [(m0, .inr (12, mM kd gw fa gM 0 0 0 0 0 0 0 0 th))] s.heap := hP
  have hl := lv_entry ([.ref m0, .int a0, .int a1, .int a2, .int a3]) (n := 7) (Nat.le_of_ble_eq_true rfl)
  rw [lg_entry_eq]
  generalize (lg_sl ([.ref m0, .int a0, .int a1, .int a2, .int a3]) ++ List.replicate (7 - (lg_sl ([.ref m0, .int a0, .int a1, .int a2, .int a3])).length) Slot.unset).toArray = ls at hl ⊢
  have hl : lv_has ls 7 [(0, .ref m0), (1, .int a0), (2, .int a1), (3, .int a2), (4, .int a3)] := hl
  refine lv_aload_n hx hb dX12_way_0 rfl (lv_at hl 0 rfl) ?_
  refine lv_iload_n hx hb dX12_way_1 rfl (lv_at hl 1 rfl) ?_
  have hPc := hP.sub (ws' := [(m0, .inr (12, mM kd gw fa gM 0 0 0 0 0 0 0 0 th))]) [0] rfl
  have hDc := hD.sub (ws' := [(m0, .inr (12, mM kd gw fa gM 0 0 0 0 0 0 0 0 th))]) [0] (by decide) rfl
  have hKc := hK.sub (tys' := []) [] rfl
  have hFc := roF hS hA
  refine va_calli (va_runV (As := [.int a0]) (rest := []) ⟨hx, hb, hml, hown, hts⟩ (c_X12_isBox l dC dI s.heap.size m0 kd gw fa gM th a0) (cwV 1 hts (gV u_1415 u_1417 v_46 u_14 u_1418) rfl rfl rfl (by decide +kernel) ⟨Nat.le_of_ble_eq_true rfl, Nat.le_of_ble_eq_true rfl⟩) ⟨gP_blind, va_recv hKc hPc (ci := 12) (q0 := 0) rfl rfl, gP_call hPc hKc hDc hE⟩ rfl rfl hl.1 rfl (lv_room (Nat.le_of_ble_eq_true rfl)) dX12_way_2 ⟨(Nat.le_of_ble_eq_true rfl), (Nat.le_of_ble_eq_true rfl)⟩) hS (fun q _ h => hFc q h) hFc (fun r234 u9 t9 H233 locs ht hvm hw hB hz1 hk1 hS => ?_)
  have hP := roP hP hk1
  subst hw
  refine lv_if_eq (tgt := 17) hx hb dX12_way_5 (by decide) (fun _ => ?_) (fun h9 => absurd (by decide) h9)
  refine lv_iconst (v := 0) hx hb dX12_way_17 (by decide) ?_
  refine lv_istore (lv' := [(5, .int 0), (0, .ref m0), (1, .int a0), (2, .int a1), (3, .int a2), (4, .int a3)]) hx hb dX12_way_18 hl (by decide) rfl (fun ls hl => ?_)
  refine lv_aload_n hx hb dX12_way_20 rfl (lv_at hl 1 rfl) ?_
  refine lv_iload hx hb dX12_way_21 (lv_at hl 0 rfl) ?_
  refine lv_if_eq (tgt := 30) hx hb dX12_way_23 (by decide) (fun _ => ?_) (fun h9 => absurd (by decide) h9)
  refine lv_iconst (v := 1) hx hb dX12_way_30 (by decide) ?_
  have hPc := hP.sub (ws' := [(m0, .inr (12, mM kd gw fa gM 0 0 0 0 0 0 0 0 th))]) [0] rfl
  have hDc := hD.sub (ws' := [(m0, .inr (12, mM kd gw fa gM 0 0 0 0 0 0 0 0 th))]) [0] (by decide) rfl
  have hKc := hK.sub (tys' := []) [] rfl
  have hFc := va_free (wc := [(m0, .inr (12, mM kd gw fa gM 0 0 0 0 0 0 0 0 th))]) hD hS hA [0] rfl
  refine va_calli (va_runV (As := [.int 1]) (rest := []) ⟨hx, hb, hml, hown, hts⟩ (c_X12_can l dC dI H233.size m0 kd gw fa gM th 1) (cwV 1 hts (gV u_1403 u_1405 v_44 u_14 u_1406) rfl rfl rfl (by decide +kernel) ⟨Nat.le_of_ble_eq_true rfl, Nat.le_of_ble_eq_true rfl⟩) ⟨gP_blind, va_recv hKc hPc (ci := 12) (q0 := 0) rfl rfl, gP_call hPc hKc hDc hE⟩ rfl rfl hl.1 rfl (lv_room (Nat.le_of_ble_eq_true rfl)) dX12_way_31 ⟨(Nat.le_of_ble_eq_true rfl), (Nat.le_of_ble_eq_true rfl)⟩) hS (fun q _ h => hFc q h) hFc (fun r236 u9 t9 H235 locs ht hvm hw hB hz1 hk1 hS => ?_)
  obtain ⟨hP1, hK1, hD1⟩ := hB
  rw [ht] at hP1
  have hK1 := va_K.moved hvm.symm hK1
  obtain ⟨hP, hD⟩ := va_join (wr := []) (w1 := [(m0, .inr (12, mM kd gw fa gM 0 0 0 0 0 0 0 0 1))]) hP hD [0] [] rfl rfl (by decide) (by decide) hk1 hFc hP1 hD1
  have hK := (hK.sub (tys' := []) [] rfl).app hK1
  have hK : va_K (dC, dI) vwCl [] s := hK
  have hP : va_P (dC, dI) vwCl [(m0, .inr (12, mM kd gw fa gM 0 0 0 0 0 0 0 0 1))] H235 := hP
  have hD : va_D A [(m0, .inr (12, mM kd gw fa gM 0 0 0 0 0 0 0 0 1))] := hD
  subst hw
  rw [show gCan 1 = 0 from by decide]
  refine lv_if_eq (tgt := 47) hx hb dX12_way_34 (by decide) (fun _ => ?_) (fun h9 => absurd (by decide) h9)
  refine lv_iconst (v := 0) hx hb dX12_way_47 (by decide) ?_
  refine W.widen (k := 0) (n := 0) (Nat.le_of_ble_eq_true rfl) (Nat.le_of_ble_eq_true rfl) ?_
  exact W.iret (v := 0) hx hb hr (fun t ht hW => ⟨⟨0, (), rfl, rfl, ⟨by rw [ht]; exact hP, va_K.moved hW.alike hK, hD⟩⟩, hS.F ht⟩) hS.2.2 dX12_way_48
set_option maxHeartbeats 4000000 in
set_option maxRecDepth 100000 in
theorem c_X12_thrown (l : Launch) (dC : Nat → ClassId) (dI : Nat → Nat → Nat) (sz : Nat) (m0 : Nat) (kd : Nat) (gw : Nat) (fa : Nat) (gM : Nat → Nat) (th : Int32) : Met l yX12_thrown (Cond.code yX12_thrown cX12_thrown 1 (some .int) :: gU) ({ frames := 0, cells := 0, slots := 0, locals := 0 }) (gP dC dI sz [(m0, .inr (12, mM kd gw fa gM 0 0 0 0 0 0 0 0 th))] [] [.ref m0]) (va_Qi (fun (r : Int32) (_ : Unit) => r = th) (fun _ _ => True) (va_A [] sz)) 0 0 (va_A [] sz) := by
  refine Met.ofW (cc := cX12_thrown) (maxL := 1) (ret := (some .int)) (by decide) rfl ?_
  intro p e s m args below meth c s₁ B hml hv
  obtain ⟨rfl, hsz, hP, hK, hD0, hE⟩ := hv
  have hx := B.exec
  have hb := B.bytes
  have hr := B.returns
  have hts0 := atoms_spec (ws := Cond.code yX12_thrown cX12_thrown 1 (some .int) :: gU) B.pre
  have hts : ∀ w ∈ gU, w.before _ s = true := fun w h => hts0 w (List.mem_cons_of_mem _ h)
  have hown : s.vm.findClass RX12 = some m.cls := findClass_of_methodNamed B.named
  have hlocks := B.notSynchronized
  subst hsz
  have hD := hD0
  generalize hAe : va_A [] s.heap.size = A at ⊢
  have hA : ∀ q : Nat, s.heap.size ≤ q → A q := fun q h => by rw [← hAe]; exact Or.inr h
  have hS : va_S A s.heap s.heap [] := va_S.rf
  have hP : va_P (dC, dI) vwCl [(m0, .inr (12, mM kd gw fa gM 0 0 0 0 0 0 0 0 th))] s.heap := hP
  have hl := lv_entry ([.ref m0]) (n := 1) (Nat.le_of_ble_eq_true rfl)
  rw [lg_entry_eq]
  generalize (lg_sl ([.ref m0]) ++ List.replicate (1 - (lg_sl ([.ref m0])).length) Slot.unset).toArray = ls at hl ⊢
  have hl : lv_has ls 1 [(0, .ref m0)] := hl
  refine lv_aload_n hx hb dX12_thrown_0 rfl (lv_at hl 0 rfl) ?_
  refine va_get (D := (dC, dI)) (ci := 12) (v := .int th) (C := RX12) (T := TX12) (N := 47) hx hb hts gX12 hown hK hP 0 rfl rfl 46 (by decide) (hts _ u_1296) (fun _ h9 => h9) rfl dX12_thrown_1 ?_
  refine W.widen (k := 0) (n := 0) (Nat.le_of_ble_eq_true rfl) (Nat.le_of_ble_eq_true rfl) ?_
  exact W.iret (v := th) hx hb hr (fun t ht hW => ⟨⟨th, (), rfl, rfl, trivial⟩, hS.F ht⟩) hS.2.2 dX12_thrown_4
set_option maxHeartbeats 4000000 in
set_option maxRecDepth 100000 in
theorem c_X12_frames (l : Launch) (dC : Nat → ClassId) (dI : Nat → Nat → Nat) (sz : Nat) (m0 : Nat) (kd : Nat) (gw : Nat) (fa : Nat) (gM : Nat → Nat) (th : Int32) : Met l yX12_frames (Cond.code yX12_frames cX12_frames 1 (some .int) :: gU) ({ frames := 0, cells := 0, slots := 0, locals := 0 }) (gP dC dI sz [(m0, .inr (12, mM kd gw fa gM 0 0 0 0 0 0 0 0 th))] [] [.ref m0]) (va_Qi (fun (r : Int32) (_ : Unit) => r = 0) (fun (_ : Unit) (t9 : State) => va_P (dC, dI) vwCl [(m0, .inr (12, mM kd gw fa gM 0 0 0 0 0 0 0 0 0))] t9.heap ∧ va_K (dC, dI) vwCl [] t9 ∧ va_D (va_A [(m0, .inr (12, mM kd gw fa gM 0 0 0 0 0 0 0 0 th))] sz) [(m0, .inr (12, mM kd gw fa gM 0 0 0 0 0 0 0 0 0))]) (va_A [(m0, .inr (12, mM kd gw fa gM 0 0 0 0 0 0 0 0 th))] sz)) 0 0 (va_A [(m0, .inr (12, mM kd gw fa gM 0 0 0 0 0 0 0 0 th))] sz) := by
  refine Met.ofW (cc := cX12_frames) (maxL := 1) (ret := (some .int)) (by decide) rfl ?_
  intro p e s m args below meth c s₁ B hml hv
  obtain ⟨rfl, hsz, hP, hK, hD0, hE⟩ := hv
  have hx := B.exec
  have hb := B.bytes
  have hr := B.returns
  have hts0 := atoms_spec (ws := Cond.code yX12_frames cX12_frames 1 (some .int) :: gU) B.pre
  have hts : ∀ w ∈ gU, w.before _ s = true := fun w h => hts0 w (List.mem_cons_of_mem _ h)
  have hown : s.vm.findClass RX12 = some m.cls := findClass_of_methodNamed B.named
  have hlocks := B.notSynchronized
  subst hsz
  have hD := hD0.self (sz := s.heap.size)
  generalize hAe : va_A [(m0, .inr (12, mM kd gw fa gM 0 0 0 0 0 0 0 0 th))] s.heap.size = A at hD ⊢
  have hA : ∀ q : Nat, s.heap.size ≤ q → A q := fun q h => by rw [← hAe]; exact Or.inr h
  have hS : va_S A s.heap s.heap [] := va_S.rf
  have hP : va_P (dC, dI) vwCl [(m0, .inr (12, mM kd gw fa gM 0 0 0 0 0 0 0 0 th))] s.heap := hP
  have hl := lv_entry ([.ref m0]) (n := 1) (Nat.le_of_ble_eq_true rfl)
  rw [lg_entry_eq]
  generalize (lg_sl ([.ref m0]) ++ List.replicate (1 - (lg_sl ([.ref m0])).length) Slot.unset).toArray = ls at hl ⊢
  have hl : lv_has ls 1 [(0, .ref m0)] := hl
  refine lv_aload_n hx hb dX12_frames_0 rfl (lv_at hl 0 rfl) ?_
  refine lv_iconst (v := 0) hx hb dX12_frames_1 (by decide) ?_
  refine va_put (D := (dC, dI)) (ci := 12) (v := .int 0) (ty := .int) (C := RX12) (T := TX12) (N := 47) hx hb hts gX12 tyX12 tyX12_ok nmX12 hown hK hP hD hS 0 rfl rfl 46 (by decide) (hts _ u_1296) (fun _ h9 => h9) rfl (by decide +kernel) rfl rfl (Nat.le_of_ble_eq_true rfl) dX12_frames_2 (fun H237 locs hP hD hS => ?_)
  have hP : va_P (dC, dI) vwCl [(m0, .inr (12, mM kd gw fa gM 0 0 0 0 0 0 0 0 0))] H237 := hP
  have hD : va_D A [(m0, .inr (12, mM kd gw fa gM 0 0 0 0 0 0 0 0 0))] := hD
  refine lv_aload_n hx hb dX12_frames_5 rfl (lv_at hl 0 rfl) ?_
  refine va_get (D := (dC, dI)) (ci := 12) (v := .int 0) (C := RX12) (T := TX12) (N := 47) hx hb hts gX12 hown hK hP 0 rfl rfl 34 (by decide) (hts _ u_1284) (fun _ h9 => h9) rfl dX12_frames_6 ?_
  refine W.widen (k := 0) (n := 0) (Nat.le_of_ble_eq_true rfl) (Nat.le_of_ble_eq_true rfl) ?_
  exact W.iret (v := 0) hx hb hr (fun t ht hW => ⟨⟨0, (), rfl, rfl, ⟨by rw [ht]; exact hP, va_K.moved hW.alike hK, hD⟩⟩, hS.F ht⟩) hS.2.2 dX12_frames_9
