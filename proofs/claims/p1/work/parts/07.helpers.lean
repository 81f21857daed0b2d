theorem dL_address_0 : decode cL_address 0 = .ok (.aload 4, 2) := by decide +kernel
theorem dL_address_2 : decode cL_address 2 = .ok (.iconst 0, 1) := by decide +kernel
theorem dL_address_3 : decode cL_address 3 = .ok (.aload_n 0, 1) := by decide +kernel
theorem dL_address_4 : decode cL_address 4 = .ok (.iload_n 1, 1) := by decide +kernel
theorem dL_address_5 : decode cL_address 5 = .ok (.iload_n 2, 1) := by decide +kernel
theorem dL_address_6 : decode cL_address 6 = .ok (.iload_n 3, 1) := by decide +kernel
theorem dL_address_7 : decode cL_address 7 = .ok (.invokevirtual 37, 3) := by decide +kernel
theorem dL_address_15 : decode cL_address 15 = .ok (.astore 5, 2) := by decide +kernel
theorem dL_address_17 : decode cL_address 17 = .ok (.iconst 1, 1) := by decide +kernel
theorem dL_address_18 : decode cL_address 18 = .ok (.ireturn, 1) := by decide +kernel
theorem dL_cable_0 : decode cL_cable 0 = .ok (.aload_n 3, 1) := by decide +kernel
theorem dL_cable_1 : decode cL_cable 1 = .ok (.iconst 0, 1) := by decide +kernel
theorem dL_cable_2 : decode cL_cable 2 = .ok (.aload_n 0, 1) := by decide +kernel
theorem dL_cable_3 : decode cL_cable 3 = .ok (.iload_n 1, 1) := by decide +kernel
theorem dL_cable_4 : decode cL_cable 4 = .ok (.iload_n 2, 1) := by decide +kernel
theorem dL_cable_5 : decode cL_cable 5 = .ok (.invokevirtual 17, 3) := by decide +kernel
theorem dL_cable_13 : decode cL_cable 13 = .ok (.astore 4, 2) := by decide +kernel
theorem dL_cable_15 : decode cL_cable 15 = .ok (.iconst 1, 1) := by decide +kernel
theorem dL_cable_16 : decode cL_cable 16 = .ok (.ireturn, 1) := by decide +kernel
theorem dL_fate_0 : decode cL_fate 0 = .ok (.aload_n 2, 1) := by decide +kernel
theorem dL_fate_1 : decode cL_fate 1 = .ok (.iconst 0, 1) := by decide +kernel
theorem dL_fate_2 : decode cL_fate 2 = .ok (.aload_n 0, 1) := by decide +kernel
theorem dL_fate_3 : decode cL_fate 3 = .ok (.iload_n 1, 1) := by decide +kernel
theorem dL_fate_4 : decode cL_fate 4 = .ok (.invokevirtual 65, 3) := by decide +kernel
theorem dL_fate_12 : decode cL_fate 12 = .ok (.astore_n 3, 1) := by decide +kernel
theorem dL_fate_13 : decode cL_fate 13 = .ok (.iconst 1, 1) := by decide +kernel
theorem dL_fate_14 : decode cL_fate 14 = .ok (.ireturn, 1) := by decide +kernel
theorem dL_gateway_0 : decode cL_gateway 0 = .ok (.aload_n 3, 1) := by decide +kernel
theorem dL_gateway_1 : decode cL_gateway 1 = .ok (.iconst 0, 1) := by decide +kernel
theorem dL_gateway_2 : decode cL_gateway 2 = .ok (.aload_n 0, 1) := by decide +kernel
theorem dL_gateway_3 : decode cL_gateway 3 = .ok (.iload_n 1, 1) := by decide +kernel
theorem dL_gateway_4 : decode cL_gateway 4 = .ok (.iload_n 2, 1) := by decide +kernel
theorem dL_gateway_5 : decode cL_gateway 5 = .ok (.invokevirtual 41, 3) := by decide +kernel
theorem dL_gateway_13 : decode cL_gateway 13 = .ok (.astore 4, 2) := by decide +kernel
theorem dL_gateway_15 : decode cL_gateway 15 = .ok (.iconst 1, 1) := by decide +kernel
theorem dL_gateway_16 : decode cL_gateway 16 = .ok (.ireturn, 1) := by decide +kernel
theorem dL_isBlocked_0 : decode cL_isBlocked 0 = .ok (.aload_n 2, 1) := by decide +kernel
theorem dL_isBlocked_1 : decode cL_isBlocked 1 = .ok (.iconst 0, 1) := by decide +kernel
theorem dL_isBlocked_2 : decode cL_isBlocked 2 = .ok (.aload_n 0, 1) := by decide +kernel
theorem dL_isBlocked_3 : decode cL_isBlocked 3 = .ok (.iload_n 1, 1) := by decide +kernel
theorem dL_isBlocked_4 : decode cL_isBlocked 4 = .ok (.invokevirtual 27, 3) := by decide +kernel
theorem dL_isBlocked_19 : decode cL_isBlocked 19 = .ok (.astore_n 3, 1) := by decide +kernel
theorem dL_isBlocked_20 : decode cL_isBlocked 20 = .ok (.iconst 1, 1) := by decide +kernel
theorem dL_isBlocked_21 : decode cL_isBlocked 21 = .ok (.ireturn, 1) := by decide +kernel
theorem dL_learnt_0 : decode cL_learnt 0 = .ok (.aload 4, 2) := by decide +kernel
theorem dL_learnt_2 : decode cL_learnt 2 = .ok (.iconst 0, 1) := by decide +kernel
theorem dL_learnt_3 : decode cL_learnt 3 = .ok (.aload_n 0, 1) := by decide +kernel
theorem dL_learnt_4 : decode cL_learnt 4 = .ok (.iload_n 1, 1) := by decide +kernel
theorem dL_learnt_5 : decode cL_learnt 5 = .ok (.iload_n 2, 1) := by decide +kernel
theorem dL_learnt_6 : decode cL_learnt 6 = .ok (.iload_n 3, 1) := by decide +kernel
theorem dL_learnt_7 : decode cL_learnt 7 = .ok (.invokevirtual 77, 3) := by decide +kernel
theorem dL_learnt_15 : decode cL_learnt 15 = .ok (.astore 5, 2) := by decide +kernel
theorem dL_learnt_17 : decode cL_learnt 17 = .ok (.iconst 1, 1) := by decide +kernel
theorem dL_learnt_18 : decode cL_learnt 18 = .ok (.ireturn, 1) := by decide +kernel
theorem dL_net_0 : decode cL_net 0 = .ok (.aload_n 3, 1) := by decide +kernel
theorem dL_net_1 : decode cL_net 1 = .ok (.iconst 0, 1) := by decide +kernel
theorem dL_net_2 : decode cL_net 2 = .ok (.aload_n 0, 1) := by decide +kernel
theorem dL_net_3 : decode cL_net 3 = .ok (.iload_n 1, 1) := by decide +kernel
theorem dL_net_4 : decode cL_net 4 = .ok (.iload_n 2, 1) := by decide +kernel
theorem dL_net_5 : decode cL_net 5 = .ok (.invokevirtual 30, 3) := by decide +kernel
theorem dL_net_13 : decode cL_net 13 = .ok (.astore 4, 2) := by decide +kernel
theorem dL_net_15 : decode cL_net 15 = .ok (.iconst 1, 1) := by decide +kernel
theorem dL_net_16 : decode cL_net 16 = .ok (.ireturn, 1) := by decide +kernel
theorem dL_noted_0 : decode cL_noted 0 = .ok (.aload_n 3, 1) := by decide +kernel
theorem dL_noted_1 : decode cL_noted 1 = .ok (.iconst 0, 1) := by decide +kernel
theorem dL_noted_2 : decode cL_noted 2 = .ok (.aload_n 0, 1) := by decide +kernel
theorem dL_noted_3 : decode cL_noted 3 = .ok (.iload_n 1, 1) := by decide +kernel
theorem dL_noted_4 : decode cL_noted 4 = .ok (.iload_n 2, 1) := by decide +kernel
theorem dL_noted_5 : decode cL_noted 5 = .ok (.invokevirtual 74, 3) := by decide +kernel
theorem dL_noted_13 : decode cL_noted 13 = .ok (.astore 4, 2) := by decide +kernel
theorem dL_noted_15 : decode cL_noted 15 = .ok (.iconst 1, 1) := by decide +kernel
theorem dL_noted_16 : decode cL_noted 16 = .ok (.ireturn, 1) := by decide +kernel
theorem dL_pool_0 : decode cL_pool 0 = .ok (.aload 4, 2) := by decide +kernel
theorem dL_pool_2 : decode cL_pool 2 = .ok (.iconst 0, 1) := by decide +kernel
theorem dL_pool_3 : decode cL_pool 3 = .ok (.aload_n 0, 1) := by decide +kernel
theorem dL_pool_4 : decode cL_pool 4 = .ok (.iload_n 1, 1) := by decide +kernel
theorem dL_pool_5 : decode cL_pool 5 = .ok (.iload_n 2, 1) := by decide +kernel
theorem dL_pool_6 : decode cL_pool 6 = .ok (.iload_n 3, 1) := by decide +kernel
theorem dL_pool_7 : decode cL_pool 7 = .ok (.invokevirtual 56, 3) := by decide +kernel
theorem dL_pool_15 : decode cL_pool 15 = .ok (.astore 5, 2) := by decide +kernel
theorem dL_pool_17 : decode cL_pool 17 = .ok (.iconst 1, 1) := by decide +kernel
theorem dL_pool_18 : decode cL_pool 18 = .ok (.ireturn, 1) := by decide +kernel
theorem dL_proved_0 : decode cL_proved 0 = .ok (.aload 4, 2) := by decide +kernel
theorem dL_proved_2 : decode cL_proved 2 = .ok (.iconst 0, 1) := by decide +kernel
theorem dL_proved_3 : decode cL_proved 3 = .ok (.aload_n 0, 1) := by decide +kernel
theorem dL_proved_4 : decode cL_proved 4 = .ok (.iload_n 1, 1) := by decide +kernel
theorem dL_proved_5 : decode cL_proved 5 = .ok (.iload_n 2, 1) := by decide +kernel
theorem dL_proved_6 : decode cL_proved 6 = .ok (.iload_n 3, 1) := by decide +kernel
theorem dL_proved_7 : decode cL_proved 7 = .ok (.invokevirtual 86, 3) := by decide +kernel
theorem dL_proved_15 : decode cL_proved 15 = .ok (.astore 5, 2) := by decide +kernel
theorem dL_proved_17 : decode cL_proved 17 = .ok (.iconst 1, 1) := by decide +kernel
theorem dL_proved_18 : decode cL_proved 18 = .ok (.ireturn, 1) := by decide +kernel
theorem dL_reach_0 : decode cL_reach 0 = .ok (.aload_n 3, 1) := by decide +kernel
theorem dL_reach_1 : decode cL_reach 1 = .ok (.iconst 0, 1) := by decide +kernel
theorem dL_reach_2 : decode cL_reach 2 = .ok (.aload_n 0, 1) := by decide +kernel
theorem dL_reach_3 : decode cL_reach 3 = .ok (.iload_n 1, 1) := by decide +kernel
theorem dL_reach_4 : decode cL_reach 4 = .ok (.iload_n 2, 1) := by decide +kernel
theorem dL_reach_5 : decode cL_reach 5 = .ok (.invokevirtual 80, 3) := by decide +kernel
theorem dL_reach_13 : decode cL_reach 13 = .ok (.astore 4, 2) := by decide +kernel
theorem dL_reach_15 : decode cL_reach 15 = .ok (.iconst 1, 1) := by decide +kernel
theorem dL_reach_16 : decode cL_reach 16 = .ok (.ireturn, 1) := by decide +kernel
theorem dL_reachAnew_0 : decode cL_reachAnew 0 = .ok (.aload_n 3, 1) := by decide +kernel
theorem dL_reachAnew_1 : decode cL_reachAnew 1 = .ok (.iconst 0, 1) := by decide +kernel
theorem dL_reachAnew_2 : decode cL_reachAnew 2 = .ok (.aload_n 0, 1) := by decide +kernel
theorem dL_reachAnew_3 : decode cL_reachAnew 3 = .ok (.iload_n 1, 1) := by decide +kernel
theorem dL_reachAnew_4 : decode cL_reachAnew 4 = .ok (.iload_n 2, 1) := by decide +kernel
theorem dL_reachAnew_5 : decode cL_reachAnew 5 = .ok (.invokevirtual 83, 3) := by decide +kernel
theorem dL_reachAnew_13 : decode cL_reachAnew 13 = .ok (.astore 4, 2) := by decide +kernel
theorem dL_reachAnew_15 : decode cL_reachAnew 15 = .ok (.iconst 1, 1) := by decide +kernel
theorem dL_reachAnew_16 : decode cL_reachAnew 16 = .ok (.ireturn, 1) := by decide +kernel
theorem dL_route_0 : decode cL_route 0 = .ok (.aload 5, 2) := by decide +kernel
theorem dL_route_2 : decode cL_route 2 = .ok (.iconst 0, 1) := by decide +kernel
theorem dL_route_3 : decode cL_route 3 = .ok (.aload_n 0, 1) := by decide +kernel
theorem dL_route_4 : decode cL_route 4 = .ok (.iload_n 1, 1) := by decide +kernel
theorem dL_route_5 : decode cL_route 5 = .ok (.iload_n 2, 1) := by decide +kernel
theorem dL_route_6 : decode cL_route 6 = .ok (.iload_n 3, 1) := by decide +kernel
theorem dL_route_7 : decode cL_route 7 = .ok (.iload 4, 2) := by decide +kernel
theorem dL_route_9 : decode cL_route 9 = .ok (.invokevirtual 44, 3) := by decide +kernel
theorem dL_route_17 : decode cL_route 17 = .ok (.astore 6, 2) := by decide +kernel
theorem dL_route_19 : decode cL_route 19 = .ok (.iconst 1, 1) := by decide +kernel
theorem dL_route_20 : decode cL_route 20 = .ok (.ireturn, 1) := by decide +kernel
theorem dL_rule_0 : decode cL_rule 0 = .ok (.aload 8, 2) := by decide +kernel
theorem dL_rule_2 : decode cL_rule 2 = .ok (.iconst 0, 1) := by decide +kernel
theorem dL_rule_3 : decode cL_rule 3 = .ok (.aload_n 0, 1) := by decide +kernel
theorem dL_rule_4 : decode cL_rule 4 = .ok (.iload_n 1, 1) := by decide +kernel
theorem dL_rule_5 : decode cL_rule 5 = .ok (.iload_n 2, 1) := by decide +kernel
theorem dL_rule_6 : decode cL_rule 6 = .ok (.iload_n 3, 1) := by decide +kernel
theorem dL_rule_7 : decode cL_rule 7 = .ok (.iload 4, 2) := by decide +kernel
theorem dL_rule_9 : decode cL_rule 9 = .ok (.iload 5, 2) := by decide +kernel
theorem dL_rule_11 : decode cL_rule 11 = .ok (.iload 6, 2) := by decide +kernel
theorem dL_rule_13 : decode cL_rule 13 = .ok (.iload 7, 2) := by decide +kernel
theorem dL_rule_15 : decode cL_rule 15 = .ok (.invokevirtual 48, 3) := by decide +kernel
theorem dL_rule_23 : decode cL_rule 23 = .ok (.astore 9, 2) := by decide +kernel
theorem dL_rule_25 : decode cL_rule 25 = .ok (.iconst 1, 1) := by decide +kernel
theorem dL_rule_26 : decode cL_rule 26 = .ok (.ireturn, 1) := by decide +kernel
theorem dL_sees_0 : decode cL_sees 0 = .ok (.aload_n 3, 1) := by decide +kernel
theorem dL_sees_1 : decode cL_sees 1 = .ok (.iconst 0, 1) := by decide +kernel
theorem dL_sees_2 : decode cL_sees 2 = .ok (.aload_n 0, 1) := by decide +kernel
theorem dL_sees_3 : decode cL_sees 3 = .ok (.iload_n 1, 1) := by decide +kernel
theorem dL_sees_4 : decode cL_sees 4 = .ok (.iload_n 2, 1) := by decide +kernel
theorem dL_sees_5 : decode cL_sees 5 = .ok (.invokevirtual 33, 3) := by decide +kernel
theorem dL_sees_20 : decode cL_sees 20 = .ok (.astore 4, 2) := by decide +kernel
theorem dL_sees_22 : decode cL_sees 22 = .ok (.iconst 1, 1) := by decide +kernel
theorem dL_sees_23 : decode cL_sees 23 = .ok (.ireturn, 1) := by decide +kernel
theorem dL_send_0 : decode cL_send 0 = .ok (.aload 4, 2) := by decide +kernel
theorem dL_send_2 : decode cL_send 2 = .ok (.iconst 0, 1) := by decide +kernel
theorem dL_send_3 : decode cL_send 3 = .ok (.aload_n 0, 1) := by decide +kernel
theorem dL_send_4 : decode cL_send 4 = .ok (.iload_n 1, 1) := by decide +kernel
theorem dL_send_5 : decode cL_send 5 = .ok (.iload_n 2, 1) := by decide +kernel
theorem dL_send_6 : decode cL_send 6 = .ok (.iload_n 3, 1) := by decide +kernel
theorem dL_send_7 : decode cL_send 7 = .ok (.invokevirtual 59, 3) := by decide +kernel
theorem dL_send_15 : decode cL_send 15 = .ok (.astore 5, 2) := by decide +kernel
theorem dL_send_17 : decode cL_send 17 = .ok (.iconst 1, 1) := by decide +kernel
theorem dL_send_18 : decode cL_send 18 = .ok (.ireturn, 1) := by decide +kernel
theorem dL_source_0 : decode cL_source 0 = .ok (.aload_n 2, 1) := by decide +kernel
theorem dL_source_1 : decode cL_source 1 = .ok (.iconst 0, 1) := by decide +kernel
theorem dL_source_2 : decode cL_source 2 = .ok (.aload_n 0, 1) := by decide +kernel
theorem dL_source_3 : decode cL_source 3 = .ok (.iload_n 1, 1) := by decide +kernel
theorem dL_source_4 : decode cL_source 4 = .ok (.invokevirtual 71, 3) := by decide +kernel
theorem dL_source_12 : decode cL_source 12 = .ok (.astore_n 3, 1) := by decide +kernel
theorem dL_source_13 : decode cL_source 13 = .ok (.iconst 1, 1) := by decide +kernel
theorem dL_source_14 : decode cL_source 14 = .ok (.ireturn, 1) := by decide +kernel
theorem dL_turn_0 : decode cL_turn 0 = .ok (.aload_n 2, 1) := by decide +kernel
theorem dL_turn_1 : decode cL_turn 1 = .ok (.iconst 0, 1) := by decide +kernel
theorem dL_turn_2 : decode cL_turn 2 = .ok (.aload_n 0, 1) := by decide +kernel
theorem dL_turn_3 : decode cL_turn 3 = .ok (.iload_n 1, 1) := by decide +kernel
theorem dL_turn_4 : decode cL_turn 4 = .ok (.invokevirtual 23, 3) := by decide +kernel
theorem dL_turn_19 : decode cL_turn 19 = .ok (.astore_n 3, 1) := by decide +kernel
theorem dL_turn_20 : decode cL_turn 20 = .ok (.iconst 1, 1) := by decide +kernel
theorem dL_turn_21 : decode cL_turn 21 = .ok (.ireturn, 1) := by decide +kernel
theorem dL_watch_0 : decode cL_watch 0 = .ok (.aload_n 3, 1) := by decide +kernel
theorem dL_watch_1 : decode cL_watch 1 = .ok (.iconst 0, 1) := by decide +kernel
theorem dL_watch_2 : decode cL_watch 2 = .ok (.aload_n 0, 1) := by decide +kernel
theorem dL_watch_3 : decode cL_watch 3 = .ok (.iload_n 1, 1) := by decide +kernel
theorem dL_watch_4 : decode cL_watch 4 = .ok (.iload_n 2, 1) := by decide +kernel
theorem dL_watch_5 : decode cL_watch 5 = .ok (.invokevirtual 52, 3) := by decide +kernel
theorem dL_watch_20 : decode cL_watch 20 = .ok (.astore 4, 2) := by decide +kernel
theorem dL_watch_22 : decode cL_watch 22 = .ok (.iconst 1, 1) := by decide +kernel
theorem dL_watch_23 : decode cL_watch 23 = .ok (.ireturn, 1) := by decide +kernel
theorem dL_way_0 : decode cL_way 0 = .ok (.aload 5, 2) := by decide +kernel
theorem dL_way_2 : decode cL_way 2 = .ok (.iconst 0, 1) := by decide +kernel
theorem dL_way_3 : decode cL_way 3 = .ok (.aload_n 0, 1) := by decide +kernel
theorem dL_way_4 : decode cL_way 4 = .ok (.iload_n 1, 1) := by decide +kernel
theorem dL_way_5 : decode cL_way 5 = .ok (.iload_n 2, 1) := by decide +kernel
theorem dL_way_6 : decode cL_way 6 = .ok (.iload_n 3, 1) := by decide +kernel
theorem dL_way_7 : decode cL_way 7 = .ok (.iload 4, 2) := by decide +kernel
theorem dL_way_9 : decode cL_way 9 = .ok (.invokevirtual 89, 3) := by decide +kernel
theorem dL_way_17 : decode cL_way 17 = .ok (.astore 6, 2) := by decide +kernel
theorem dL_way_19 : decode cL_way 19 = .ok (.iconst 1, 1) := by decide +kernel
theorem dL_way_20 : decode cL_way 20 = .ok (.ireturn, 1) := by decide +kernel
theorem dL_where_0 : decode cL_where 0 = .ok (.aload_n 2, 1) := by decide +kernel
theorem dL_where_1 : decode cL_where 1 = .ok (.iconst 0, 1) := by decide +kernel
theorem dL_where_2 : decode cL_where 2 = .ok (.aload_n 0, 1) := by decide +kernel
theorem dL_where_3 : decode cL_where 3 = .ok (.iload_n 1, 1) := by decide +kernel
theorem dL_where_4 : decode cL_where 4 = .ok (.invokevirtual 68, 3) := by decide +kernel
theorem dL_where_12 : decode cL_where 12 = .ok (.astore_n 3, 1) := by decide +kernel
theorem dL_where_13 : decode cL_where 13 = .ok (.iconst 1, 1) := by decide +kernel
theorem dL_where_14 : decode cL_where 14 = .ok (.ireturn, 1) := by decide +kernel
theorem u_606 : Cond.classLink RL 21 "java/lang/IndexOutOfBoundsException" ∈ gU := gm (i := 606) (by decide +kernel) (by decide +kernel)
theorem u_607 : Cond.methodLink RL 17 yX11_cable ∈ gU := gm (i := 607) (by decide +kernel) (by decide +kernel)
theorem u_608 : Cond.instanceMethod yX11_cable ∈ gU := gm (i := 608) (by decide +kernel) (by decide +kernel)
theorem u_609 : Cond.selects RX11 yX11_cable yX11_cable ∈ gU := gm (i := 609) (by decide +kernel) (by decide +kernel)
theorem u_610 : Cond.code yX11_cable cX11_cable 4 (some .int) ∈ gU := gm (i := 610) (by decide +kernel) (by decide +kernel)
theorem u_697 : Cond.methodLink RL 23 yX11_turn ∈ gU := gm (i := 697) (by decide +kernel) (by decide +kernel)
theorem u_698 : Cond.instanceMethod yX11_turn ∈ gU := gm (i := 698) (by decide +kernel) (by decide +kernel)
theorem u_699 : Cond.selects RX11 yX11_turn yX11_turn ∈ gU := gm (i := 699) (by decide +kernel) (by decide +kernel)
theorem u_700 : Cond.code yX11_turn cX11_turn 2 (some .boolean) ∈ gU := gm (i := 700) (by decide +kernel) (by decide +kernel)
theorem u_709 : Cond.methodLink RL 27 yX11_isBlocked ∈ gU := gm (i := 709) (by decide +kernel) (by decide +kernel)
theorem u_710 : Cond.instanceMethod yX11_isBlocked ∈ gU := gm (i := 710) (by decide +kernel) (by decide +kernel)
theorem u_711 : Cond.selects RX11 yX11_isBlocked yX11_isBlocked ∈ gU := gm (i := 711) (by decide +kernel) (by decide +kernel)
theorem u_712 : Cond.code yX11_isBlocked cX11_isBlocked 2 (some .boolean) ∈ gU := gm (i := 712) (by decide +kernel) (by decide +kernel)
theorem u_716 : Cond.methodLink RL 30 yX11_net ∈ gU := gm (i := 716) (by decide +kernel) (by decide +kernel)
theorem u_717 : Cond.instanceMethod yX11_net ∈ gU := gm (i := 717) (by decide +kernel) (by decide +kernel)
theorem u_718 : Cond.selects RX11 yX11_net yX11_net ∈ gU := gm (i := 718) (by decide +kernel) (by decide +kernel)
theorem u_719 : Cond.code yX11_net cX11_net 4 (some .int) ∈ gU := gm (i := 719) (by decide +kernel) (by decide +kernel)
theorem u_724 : Cond.methodLink RL 33 yX11_sees ∈ gU := gm (i := 724) (by decide +kernel) (by decide +kernel)
theorem u_725 : Cond.instanceMethod yX11_sees ∈ gU := gm (i := 725) (by decide +kernel) (by decide +kernel)
theorem u_726 : Cond.selects RX11 yX11_sees yX11_sees ∈ gU := gm (i := 726) (by decide +kernel) (by decide +kernel)
theorem u_727 : Cond.code yX11_sees cX11_sees 3 (some .boolean) ∈ gU := gm (i := 727) (by decide +kernel) (by decide +kernel)
theorem u_761 : Cond.methodLink RL 37 yX11_address ∈ gU := gm (i := 761) (by decide +kernel) (by decide +kernel)
theorem u_762 : Cond.instanceMethod yX11_address ∈ gU := gm (i := 762) (by decide +kernel) (by decide +kernel)
theorem u_763 : Cond.selects RX11 yX11_address yX11_address ∈ gU := gm (i := 763) (by decide +kernel) (by decide +kernel)
theorem u_764 : Cond.code yX11_address cX11_address 5 (some .int) ∈ gU := gm (i := 764) (by decide +kernel) (by decide +kernel)
theorem u_778 : Cond.methodLink RL 41 yX11_gateway ∈ gU := gm (i := 778) (by decide +kernel) (by decide +kernel)
theorem u_779 : Cond.instanceMethod yX11_gateway ∈ gU := gm (i := 779) (by decide +kernel) (by decide +kernel)
theorem u_780 : Cond.selects RX11 yX11_gateway yX11_gateway ∈ gU := gm (i := 780) (by decide +kernel) (by decide +kernel)
theorem u_781 : Cond.code yX11_gateway cX11_gateway 4 (some .int) ∈ gU := gm (i := 781) (by decide +kernel) (by decide +kernel)
theorem u_794 : Cond.methodLink RL 44 yX11_route ∈ gU := gm (i := 794) (by decide +kernel) (by decide +kernel)
theorem u_795 : Cond.instanceMethod yX11_route ∈ gU := gm (i := 795) (by decide +kernel) (by decide +kernel)
theorem u_796 : Cond.selects RX11 yX11_route yX11_route ∈ gU := gm (i := 796) (by decide +kernel) (by decide +kernel)
theorem u_797 : Cond.code yX11_route cX11_route 6 (some .int) ∈ gU := gm (i := 797) (by decide +kernel) (by decide +kernel)
theorem u_808 : Cond.methodLink RL 48 yX11_rule ∈ gU := gm (i := 808) (by decide +kernel) (by decide +kernel)
theorem u_809 : Cond.instanceMethod yX11_rule ∈ gU := gm (i := 809) (by decide +kernel) (by decide +kernel)
theorem u_810 : Cond.selects RX11 yX11_rule yX11_rule ∈ gU := gm (i := 810) (by decide +kernel) (by decide +kernel)
theorem u_811 : Cond.code yX11_rule cX11_rule 9 (some .int) ∈ gU := gm (i := 811) (by decide +kernel) (by decide +kernel)
theorem u_822 : Cond.methodLink RL 52 yX11_watch ∈ gU := gm (i := 822) (by decide +kernel) (by decide +kernel)
theorem u_823 : Cond.instanceMethod yX11_watch ∈ gU := gm (i := 823) (by decide +kernel) (by decide +kernel)
theorem u_824 : Cond.selects RX11 yX11_watch yX11_watch ∈ gU := gm (i := 824) (by decide +kernel) (by decide +kernel)
theorem u_825 : Cond.code yX11_watch cX11_watch 3 (some .boolean) ∈ gU := gm (i := 825) (by decide +kernel) (by decide +kernel)
theorem u_833 : Cond.methodLink RL 56 yX11_pool ∈ gU := gm (i := 833) (by decide +kernel) (by decide +kernel)
theorem u_834 : Cond.instanceMethod yX11_pool ∈ gU := gm (i := 834) (by decide +kernel) (by decide +kernel)
theorem u_835 : Cond.selects RX11 yX11_pool yX11_pool ∈ gU := gm (i := 835) (by decide +kernel) (by decide +kernel)
theorem u_836 : Cond.code yX11_pool cX11_pool 4 (some .int) ∈ gU := gm (i := 836) (by decide +kernel) (by decide +kernel)
theorem u_846 : Cond.methodLink RL 59 yX11_send ∈ gU := gm (i := 846) (by decide +kernel) (by decide +kernel)
theorem u_847 : Cond.instanceMethod yX11_send ∈ gU := gm (i := 847) (by decide +kernel) (by decide +kernel)
theorem u_848 : Cond.selects RX11 yX11_send yX11_send ∈ gU := gm (i := 848) (by decide +kernel) (by decide +kernel)
theorem u_849 : Cond.code yX11_send cX11_send 5 (some .int) ∈ gU := gm (i := 849) (by decide +kernel) (by decide +kernel)
theorem u_1048 : Cond.methodLink RL 65 yX11_fate ∈ gU := gm (i := 1048) (by decide +kernel) (by decide +kernel)
theorem u_1049 : Cond.instanceMethod yX11_fate ∈ gU := gm (i := 1049) (by decide +kernel) (by decide +kernel)
theorem u_1050 : Cond.selects RX11 yX11_fate yX11_fate ∈ gU := gm (i := 1050) (by decide +kernel) (by decide +kernel)
theorem u_1051 : Cond.code yX11_fate cX11_fate 2 (some .int) ∈ gU := gm (i := 1051) (by decide +kernel) (by decide +kernel)
theorem u_1060 : Cond.methodLink RL 68 yX11_where ∈ gU := gm (i := 1060) (by decide +kernel) (by decide +kernel)
theorem u_1061 : Cond.instanceMethod yX11_where ∈ gU := gm (i := 1061) (by decide +kernel) (by decide +kernel)
theorem u_1062 : Cond.selects RX11 yX11_where yX11_where ∈ gU := gm (i := 1062) (by decide +kernel) (by decide +kernel)
theorem u_1063 : Cond.code yX11_where cX11_where 2 (some .int) ∈ gU := gm (i := 1063) (by decide +kernel) (by decide +kernel)
theorem u_1067 : Cond.methodLink RL 71 yX11_source ∈ gU := gm (i := 1067) (by decide +kernel) (by decide +kernel)
theorem u_1068 : Cond.instanceMethod yX11_source ∈ gU := gm (i := 1068) (by decide +kernel) (by decide +kernel)
theorem u_1069 : Cond.selects RX11 yX11_source yX11_source ∈ gU := gm (i := 1069) (by decide +kernel) (by decide +kernel)
theorem u_1070 : Cond.code yX11_source cX11_source 2 (some .int) ∈ gU := gm (i := 1070) (by decide +kernel) (by decide +kernel)
theorem u_1074 : Cond.methodLink RL 74 yX11_noted ∈ gU := gm (i := 1074) (by decide +kernel) (by decide +kernel)
theorem u_1075 : Cond.instanceMethod yX11_noted ∈ gU := gm (i := 1075) (by decide +kernel) (by decide +kernel)
theorem u_1076 : Cond.selects RX11 yX11_noted yX11_noted ∈ gU := gm (i := 1076) (by decide +kernel) (by decide +kernel)
theorem u_1077 : Cond.code yX11_noted cX11_noted 3 (some .int) ∈ gU := gm (i := 1077) (by decide +kernel) (by decide +kernel)
theorem u_1082 : Cond.methodLink RL 77 yX11_learnt ∈ gU := gm (i := 1082) (by decide +kernel) (by decide +kernel)
theorem u_1083 : Cond.instanceMethod yX11_learnt ∈ gU := gm (i := 1083) (by decide +kernel) (by decide +kernel)
theorem u_1084 : Cond.selects RX11 yX11_learnt yX11_learnt ∈ gU := gm (i := 1084) (by decide +kernel) (by decide +kernel)
theorem u_1085 : Cond.code yX11_learnt cX11_learnt 4 (some .int) ∈ gU := gm (i := 1085) (by decide +kernel) (by decide +kernel)
theorem u_1094 : Cond.methodLink RL 80 yX11_reach ∈ gU := gm (i := 1094) (by decide +kernel) (by decide +kernel)
theorem u_1095 : Cond.instanceMethod yX11_reach ∈ gU := gm (i := 1095) (by decide +kernel) (by decide +kernel)
theorem u_1096 : Cond.selects RX11 yX11_reach yX11_reach ∈ gU := gm (i := 1096) (by decide +kernel) (by decide +kernel)
theorem u_1097 : Cond.code yX11_reach cX11_reach 3 (some .int) ∈ gU := gm (i := 1097) (by decide +kernel) (by decide +kernel)
theorem u_1204 : Cond.methodLink RL 83 yX11_reachAnew ∈ gU := gm (i := 1204) (by decide +kernel) (by decide +kernel)
theorem u_1205 : Cond.instanceMethod yX11_reachAnew ∈ gU := gm (i := 1205) (by decide +kernel) (by decide +kernel)
theorem u_1206 : Cond.selects RX11 yX11_reachAnew yX11_reachAnew ∈ gU := gm (i := 1206) (by decide +kernel) (by decide +kernel)
theorem u_1207 : Cond.code yX11_reachAnew cX11_reachAnew 3 (some .int) ∈ gU := gm (i := 1207) (by decide +kernel) (by decide +kernel)
theorem u_1227 : Cond.methodLink RL 86 yX11_proved ∈ gU := gm (i := 1227) (by decide +kernel) (by decide +kernel)
theorem u_1228 : Cond.instanceMethod yX11_proved ∈ gU := gm (i := 1228) (by decide +kernel) (by decide +kernel)
theorem u_1229 : Cond.selects RX11 yX11_proved yX11_proved ∈ gU := gm (i := 1229) (by decide +kernel) (by decide +kernel)
theorem u_1230 : Cond.code yX11_proved cX11_proved 4 (some .int) ∈ gU := gm (i := 1230) (by decide +kernel) (by decide +kernel)
theorem u_1235 : Cond.methodLink RL 89 yX11_way ∈ gU := gm (i := 1235) (by decide +kernel) (by decide +kernel)
theorem u_1236 : Cond.instanceMethod yX11_way ∈ gU := gm (i := 1236) (by decide +kernel) (by decide +kernel)
theorem u_1237 : Cond.selects RX11 yX11_way yX11_way ∈ gU := gm (i := 1237) (by decide +kernel) (by decide +kernel)
theorem u_1238 : Cond.code yX11_way cX11_way 5 (some .int) ∈ gU := gm (i := 1238) (by decide +kernel) (by decide +kernel)
set_option maxHeartbeats 4000000 in
set_option maxRecDepth 100000 in
theorem c_L_cable (l : Launch) (dC : Nat → ClassId) (dI : Nat → Nat → Nat) (sz : Nat) (hfl : l.stackTraces = false) (h0 : Nat) (ou : Nat) (w : Nat) (sg : Nat) (ro : Nat) (tr : Nat) (gX : Nat → Nat) (kd : Nat) (gW : Nat → Nat) (a0 : Int32) (a1 : Int32) : Met l yL_cable (Cond.codeWith yL_cable cL_cable 5 (some .int) [(0, 10, 13, 21), (0, 10, 17, 13), (0, 10, 21, 15)] :: gU) ({ frames := 8, cells := 1, slots := 6, locals := 126 }) (gPZ dC dI sz [(h0, .inr (11, oX w sg ro tr gX)), (w, .inr (10, oW kd gW 0 0))] [] (va_A [] sz) [.ref h0, .int a0, .int a1, .ref ou]) (va_Qi (fun (r : Int32) (_ : Unit) => r = 1) (fun _ _ => True) (va_A [] sz)) 1 6 (va_A [] sz) := by
  refine va_MetW (cc := cL_cable) (maxL := 5) (ret := (some .int)) (by decide) rfl ?_
  intro p e s m args below meth c s₁ B hml hv
  obtain ⟨rfl, hsz, hP, hK, hD0, hE, hZ⟩ := hv
  have hx := B.exec
  have hb := B.bytes
  have hr := B.returns
  have hts0 := atoms_spec (ws := Cond.codeWith yL_cable cL_cable 5 (some .int) [(0, 10, 13, 21), (0, 10, 17, 13), (0, 10, 21, 15)] :: gU) B.pre
  have hts : ∀ w ∈ gU, w.before _ s = true := fun w h => hts0 w (List.mem_cons_of_mem _ h)
  have hown : s.vm.findClass RL = some m.cls := findClass_of_methodNamed B.named
  have hlocks := B.notSynchronized
  have htab := vx_table (x := yL_cable) B (hts0 _ List.mem_cons_self)
  subst hsz
  have hD := hD0
  generalize hAe : va_A [] s.heap.size = A at hZ ⊢
  have hA : ∀ q : Nat, s.heap.size ≤ q → A q := fun q h => by rw [← hAe]; exact Or.inr h
  have hS : va_S A s.heap s.heap [] := va_S.rf
  have hP : va_P (dC, dI) vwCl [(h0, .inr (11, oX w sg ro tr gX)), (w, .inr (10, oW kd gW 0 0))] s.heap := hP
  have hl := lv_entry ([.ref h0, .int a0, .int a1, .ref ou]) (n := 5) (Nat.le_of_ble_eq_true rfl)
  rw [lg_entry_eq]
  generalize (lg_sl ([.ref h0, .int a0, .int a1, .ref ou]) ++ List.replicate (5 - (lg_sl ([.ref h0, .int a0, .int a1, .ref ou])).length) Slot.unset).toArray = ls at hl ⊢
  have hl : lv_has ls 5 [(0, .ref h0), (1, .int a0), (2, .int a1), (3, .ref ou)] := hl
  refine lv_aload_n hx hb dL_cable_0 rfl (lv_at hl 3 rfl) ?_
  refine lv_iconst (v := 0) hx hb dL_cable_1 (by decide) ?_
  refine lv_aload_n hx hb dL_cable_2 rfl (lv_at hl 0 rfl) ?_
  refine lv_iload_n hx hb dL_cable_3 rfl (lv_at hl 1 rfl) ?_
  refine lv_iload_n hx hb dL_cable_4 rfl (lv_at hl 2 rfl) ?_
  have hPc := hP.sub (ws' := [(h0, .inr (11, oX w sg ro tr gX)), (w, .inr (10, oW kd gW 0 0))]) [0, 1] rfl
  have hDc := hD.sub (ws' := [(h0, .inr (11, oX w sg ro tr gX)), (w, .inr (10, oW kd gW 0 0))]) [0, 1] (by decide) rfl
  have hKc := hK.sub (tys' := []) [] rfl
  have hFc := roF hS hA
  refine vx_calli (vx_runV (As := [.int a0, .int a1]) (rest := [.int 0, .ref ou]) ⟨hx, hb, hml, hown, hts⟩ (c_X11_cable l dC dI s.heap.size hfl h0 w sg ro tr gX kd gW a0 a1) (cwV 2 hts (gV u_607 u_608 u_609 u_1 u_610) rfl rfl rfl (by decide +kernel) ⟨Nat.le_of_ble_eq_true rfl, Nat.le_of_ble_eq_true rfl⟩) ⟨gPZ_blind, va_recv hKc hPc (ci := 11) (q0 := 0) rfl rfl, gPZ_call hPc hKc hDc hE hZ hS hFc⟩ rfl rfl hl.1 rfl (lv_room (Nat.le_of_ble_eq_true rfl)) dL_cable_5 ⟨(Nat.le_of_ble_eq_true rfl), (Nat.le_of_ble_eq_true rfl)⟩) hS (fun q _ h => hFc q h) hFc (fun q _ h => hFc q h) (fun E9 ce9 q78 u9 t9 H76 locs ht hvm hpx hBX hz1 hk1 hS hce hcv hcl => ?_) (fun r77 u9 t9 H76 locs ht hvm hw hB hz1 hk1 hS => hw.elim)
  subst hBX
  refine vx_widen (k := 1) (n := 6) (Nat.le_of_ble_eq_true rfl) (Nat.le_of_ble_eq_true rfl) ?_
  refine vx_catch (pc := 5) hown [] ⟨0, 10, 13, 21⟩ [⟨0, 10, 17, 13⟩, ⟨0, 10, 21, 15⟩] (by rw [htab]; rfl) (fun z hz => nomatch hz) (by decide) (by decide) (hts _ u_606) (va_Nw.use rfl (hE.1 _ n_8)) hce hcv hcl ?_
  have hP := roP hP hk1
  refine lv_astore (lv' := [(4, .ref q78), (0, .ref h0), (1, .int a0), (2, .int a1), (3, .ref ou)]) hx hb dL_cable_13 hl (by decide) rfl (fun ls hl => ?_)
  refine lv_iconst (v := 1) hx hb dL_cable_15 (by decide) ?_
  refine W.widen (k := 1) (n := 6) (Nat.le_of_ble_eq_true rfl) (Nat.le_of_ble_eq_true rfl) ?_
  exact W.iret (v := 1) hx hb hr (fun t ht hW => ⟨⟨1, (), rfl, rfl, trivial⟩, hS.F ht⟩) hS.2.2 dL_cable_16
set_option maxHeartbeats 4000000 in
set_option maxRecDepth 100000 in
theorem c_L_turn (l : Launch) (dC : Nat → ClassId) (dI : Nat → Nat → Nat) (sz : Nat) (hfl : l.stackTraces = false) (h0 : Nat) (ou : Nat) (w : Nat) (sg : Nat) (ro : Nat) (tr : Nat) (gX : Nat → Nat) (kd : Nat) (gW : Nat → Nat) (a0 : Int32) : Met l yL_turn (Cond.codeWith yL_turn cL_turn 4 (some .int) [(0, 16, 19, 21)] :: gU) ({ frames := 8, cells := 1, slots := 6, locals := 124 }) (gPZ dC dI sz [(h0, .inr (11, oX w sg ro tr gX)), (w, .inr (10, oW kd gW 0 0))] [] (va_A [] sz) [.ref h0, .int a0, .ref ou]) (va_Qi (fun (r : Int32) (_ : Unit) => r = 1) (fun _ _ => True) (va_A [] sz)) 1 6 (va_A [] sz) := by
  refine va_MetW (cc := cL_turn) (maxL := 4) (ret := (some .int)) (by decide) rfl ?_
  intro p e s m args below meth c s₁ B hml hv
  obtain ⟨rfl, hsz, hP, hK, hD0, hE, hZ⟩ := hv
  have hx := B.exec
  have hb := B.bytes
  have hr := B.returns
  have hts0 := atoms_spec (ws := Cond.codeWith yL_turn cL_turn 4 (some .int) [(0, 16, 19, 21)] :: gU) B.pre
  have hts : ∀ w ∈ gU, w.before _ s = true := fun w h => hts0 w (List.mem_cons_of_mem _ h)
  have hown : s.vm.findClass RL = some m.cls := findClass_of_methodNamed B.named
  have hlocks := B.notSynchronized
  have htab := vx_table (x := yL_turn) B (hts0 _ List.mem_cons_self)
  subst hsz
  have hD := hD0
  generalize hAe : va_A [] s.heap.size = A at hZ ⊢
  have hA : ∀ q : Nat, s.heap.size ≤ q → A q := fun q h => by rw [← hAe]; exact Or.inr h
  have hS : va_S A s.heap s.heap [] := va_S.rf
  have hP : va_P (dC, dI) vwCl [(h0, .inr (11, oX w sg ro tr gX)), (w, .inr (10, oW kd gW 0 0))] s.heap := hP
  have hl := lv_entry ([.ref h0, .int a0, .ref ou]) (n := 4) (Nat.le_of_ble_eq_true rfl)
  rw [lg_entry_eq]
  generalize (lg_sl ([.ref h0, .int a0, .ref ou]) ++ List.replicate (4 - (lg_sl ([.ref h0, .int a0, .ref ou])).length) Slot.unset).toArray = ls at hl ⊢
  have hl : lv_has ls 4 [(0, .ref h0), (1, .int a0), (2, .ref ou)] := hl
  refine lv_aload_n hx hb dL_turn_0 rfl (lv_at hl 2 rfl) ?_
  refine lv_iconst (v := 0) hx hb dL_turn_1 (by decide) ?_
  refine lv_aload_n hx hb dL_turn_2 rfl (lv_at hl 0 rfl) ?_
  refine lv_iload_n hx hb dL_turn_3 rfl (lv_at hl 1 rfl) ?_
  have hPc := hP.sub (ws' := [(h0, .inr (11, oX w sg ro tr gX)), (w, .inr (10, oW kd gW 0 0))]) [0, 1] rfl
  have hDc := hD.sub (ws' := [(h0, .inr (11, oX w sg ro tr gX)), (w, .inr (10, oW kd gW 0 0))]) [0, 1] (by decide) rfl
  have hKc := hK.sub (tys' := []) [] rfl
  have hFc := roF hS hA
  refine vx_calli (vx_runV (As := [.int a0]) (rest := [.int 0, .ref ou]) ⟨hx, hb, hml, hown, hts⟩ (c_X11_turn l dC dI s.heap.size hfl h0 w sg ro tr gX kd gW a0) (cwV 1 hts (gV u_697 u_698 u_699 u_1 u_700) rfl rfl rfl (by decide +kernel) ⟨Nat.le_of_ble_eq_true rfl, Nat.le_of_ble_eq_true rfl⟩) ⟨gPZ_blind, va_recv hKc hPc (ci := 11) (q0 := 0) rfl rfl, gPZ_call hPc hKc hDc hE hZ hS hFc⟩ rfl rfl hl.1 rfl (lv_room (Nat.le_of_ble_eq_true rfl)) dL_turn_4 ⟨(Nat.le_of_ble_eq_true rfl), (Nat.le_of_ble_eq_true rfl)⟩) hS (fun q _ h => hFc q h) hFc (fun q _ h => hFc q h) (fun E9 ce9 q81 u9 t9 H79 locs ht hvm hpx hBX hz1 hk1 hS hce hcv hcl => ?_) (fun r80 u9 t9 H79 locs ht hvm hw hB hz1 hk1 hS => hw.elim)
  subst hBX
  refine vx_widen (k := 1) (n := 6) (Nat.le_of_ble_eq_true rfl) (Nat.le_of_ble_eq_true rfl) ?_
  refine vx_catch (pc := 4) hown [] ⟨0, 16, 19, 21⟩ [] (by rw [htab]; rfl) (fun z hz => nomatch hz) (by decide) (by decide) (hts _ u_606) (va_Nw.use rfl (hE.1 _ n_8)) hce hcv hcl ?_
  have hP := roP hP hk1
  refine lv_astore_n (lv' := [(3, .ref q81), (0, .ref h0), (1, .int a0), (2, .ref ou)]) hx hb dL_turn_19 rfl hl (by decide) rfl (fun ls hl => ?_)
  refine lv_iconst (v := 1) hx hb dL_turn_20 (by decide) ?_
  refine W.widen (k := 1) (n := 6) (Nat.le_of_ble_eq_true rfl) (Nat.le_of_ble_eq_true rfl) ?_
  exact W.iret (v := 1) hx hb hr (fun t ht hW => ⟨⟨1, (), rfl, rfl, trivial⟩, hS.F ht⟩) hS.2.2 dL_turn_21
set_option maxHeartbeats 4000000 in
set_option maxRecDepth 100000 in
theorem c_L_isBlocked (l : Launch) (dC : Nat → ClassId) (dI : Nat → Nat → Nat) (sz : Nat) (hfl : l.stackTraces = false) (h0 : Nat) (ou : Nat) (w : Nat) (sg : Nat) (ro : Nat) (tr : Nat) (gX : Nat → Nat) (kd : Nat) (gW : Nat → Nat) (a0 : Int32) : Met l yL_isBlocked (Cond.codeWith yL_isBlocked cL_isBlocked 4 (some .int) [(0, 16, 19, 21)] :: gU) ({ frames := 8, cells := 1, slots := 6, locals := 124 }) (gPZ dC dI sz [(h0, .inr (11, oX w sg ro tr gX)), (w, .inr (10, oW kd gW 0 0))] [] (va_A [] sz) [.ref h0, .int a0, .ref ou]) (va_Qi (fun (r : Int32) (_ : Unit) => r = 1) (fun _ _ => True) (va_A [] sz)) 1 6 (va_A [] sz) := by
  refine va_MetW (cc := cL_isBlocked) (maxL := 4) (ret := (some .int)) (by decide) rfl ?_
  intro p e s m args below meth c s₁ B hml hv
  obtain ⟨rfl, hsz, hP, hK, hD0, hE, hZ⟩ := hv
  have hx := B.exec
  have hb := B.bytes
  have hr := B.returns
  have hts0 := atoms_spec (ws := Cond.codeWith yL_isBlocked cL_isBlocked 4 (some .int) [(0, 16, 19, 21)] :: gU) B.pre
  have hts : ∀ w ∈ gU, w.before _ s = true := fun w h => hts0 w (List.mem_cons_of_mem _ h)
  have hown : s.vm.findClass RL = some m.cls := findClass_of_methodNamed B.named
  have hlocks := B.notSynchronized
  have htab := vx_table (x := yL_isBlocked) B (hts0 _ List.mem_cons_self)
  subst hsz
  have hD := hD0
  generalize hAe : va_A [] s.heap.size = A at hZ ⊢
  have hA : ∀ q : Nat, s.heap.size ≤ q → A q := fun q h => by rw [← hAe]; exact Or.inr h
  have hS : va_S A s.heap s.heap [] := va_S.rf
  have hP : va_P (dC, dI) vwCl [(h0, .inr (11, oX w sg ro tr gX)), (w, .inr (10, oW kd gW 0 0))] s.heap := hP
  have hl := lv_entry ([.ref h0, .int a0, .ref ou]) (n := 4) (Nat.le_of_ble_eq_true rfl)
  rw [lg_entry_eq]
  generalize (lg_sl ([.ref h0, .int a0, .ref ou]) ++ List.replicate (4 - (lg_sl ([.ref h0, .int a0, .ref ou])).length) Slot.unset).toArray = ls at hl ⊢
  have hl : lv_has ls 4 [(0, .ref h0), (1, .int a0), (2, .ref ou)] := hl
  refine lv_aload_n hx hb dL_isBlocked_0 rfl (lv_at hl 2 rfl) ?_
  refine lv_iconst (v := 0) hx hb dL_isBlocked_1 (by decide) ?_
  refine lv_aload_n hx hb dL_isBlocked_2 rfl (lv_at hl 0 rfl) ?_
  refine lv_iload_n hx hb dL_isBlocked_3 rfl (lv_at hl 1 rfl) ?_
  have hPc := hP.sub (ws' := [(h0, .inr (11, oX w sg ro tr gX)), (w, .inr (10, oW kd gW 0 0))]) [0, 1] rfl
  have hDc := hD.sub (ws' := [(h0, .inr (11, oX w sg ro tr gX)), (w, .inr (10, oW kd gW 0 0))]) [0, 1] (by decide) rfl
  have hKc := hK.sub (tys' := []) [] rfl
  have hFc := roF hS hA
  refine vx_calli (vx_runV (As := [.int a0]) (rest := [.int 0, .ref ou]) ⟨hx, hb, hml, hown, hts⟩ (c_X11_isBlocked l dC dI s.heap.size hfl h0 w sg ro tr gX kd gW a0) (cwV 1 hts (gV u_709 u_710 u_711 u_1 u_712) rfl rfl rfl (by decide +kernel) ⟨Nat.le_of_ble_eq_true rfl, Nat.le_of_ble_eq_true rfl⟩) ⟨gPZ_blind, va_recv hKc hPc (ci := 11) (q0 := 0) rfl rfl, gPZ_call hPc hKc hDc hE hZ hS hFc⟩ rfl rfl hl.1 rfl (lv_room (Nat.le_of_ble_eq_true rfl)) dL_isBlocked_4 ⟨(Nat.le_of_ble_eq_true rfl), (Nat.le_of_ble_eq_true rfl)⟩) hS (fun q _ h => hFc q h) hFc (fun q _ h => hFc q h) (fun E9 ce9 q84 u9 t9 H82 locs ht hvm hpx hBX hz1 hk1 hS hce hcv hcl => ?_) (fun r83 u9 t9 H82 locs ht hvm hw hB hz1 hk1 hS => hw.elim)
  subst hBX
  refine vx_widen (k := 1) (n := 6) (Nat.le_of_ble_eq_true rfl) (Nat.le_of_ble_eq_true rfl) ?_
  refine vx_catch (pc := 4) hown [] ⟨0, 16, 19, 21⟩ [] (by rw [htab]; rfl) (fun z hz => nomatch hz) (by decide) (by decide) (hts _ u_606) (va_Nw.use rfl (hE.1 _ n_8)) hce hcv hcl ?_
  have hP := roP hP hk1
  refine lv_astore_n (lv' := [(3, .ref q84), (0, .ref h0), (1, .int a0), (2, .ref ou)]) hx hb dL_isBlocked_19 rfl hl (by decide) rfl (fun ls hl => ?_)
  refine lv_iconst (v := 1) hx hb dL_isBlocked_20 (by decide) ?_
  refine W.widen (k := 1) (n := 6) (Nat.le_of_ble_eq_true rfl) (Nat.le_of_ble_eq_true rfl) ?_
  exact W.iret (v := 1) hx hb hr (fun t ht hW => ⟨⟨1, (), rfl, rfl, trivial⟩, hS.F ht⟩) hS.2.2 dL_isBlocked_21
set_option maxHeartbeats 4000000 in
set_option maxRecDepth 100000 in
theorem c_L_net (l : Launch) (dC : Nat → ClassId) (dI : Nat → Nat → Nat) (sz : Nat) (hfl : l.stackTraces = false) (h0 : Nat) (ou : Nat) (w : Nat) (sg : Nat) (ro : Nat) (tr : Nat) (gX : Nat → Nat) (kd : Nat) (gW : Nat → Nat) (a0 : Int32) (a1 : Int32) : Met l yL_net (Cond.codeWith yL_net cL_net 5 (some .int) [(0, 10, 13, 21), (0, 10, 17, 13)] :: gU) ({ frames := 8, cells := 1, slots := 6, locals := 126 }) (gPZ dC dI sz [(h0, .inr (11, oX w sg ro tr gX)), (w, .inr (10, oW kd gW 0 0))] [] (va_A [] sz) [.ref h0, .int a0, .int a1, .ref ou]) (va_Qi (fun (r : Int32) (_ : Unit) => r = 1) (fun _ _ => True) (va_A [] sz)) 1 6 (va_A [] sz) := by
  refine va_MetW (cc := cL_net) (maxL := 5) (ret := (some .int)) (by decide) rfl ?_
  intro p e s m args below meth c s₁ B hml hv
  obtain ⟨rfl, hsz, hP, hK, hD0, hE, hZ⟩ := hv
  have hx := B.exec
  have hb := B.bytes
  have hr := B.returns
  have hts0 := atoms_spec (ws := Cond.codeWith yL_net cL_net 5 (some .int) [(0, 10, 13, 21), (0, 10, 17, 13)] :: gU) B.pre
  have hts : ∀ w ∈ gU, w.before _ s = true := fun w h => hts0 w (List.mem_cons_of_mem _ h)
  have hown : s.vm.findClass RL = some m.cls := findClass_of_methodNamed B.named
  have hlocks := B.notSynchronized
  have htab := vx_table (x := yL_net) B (hts0 _ List.mem_cons_self)
  subst hsz
  have hD := hD0
  generalize hAe : va_A [] s.heap.size = A at hZ ⊢
  have hA : ∀ q : Nat, s.heap.size ≤ q → A q := fun q h => by rw [← hAe]; exact Or.inr h
  have hS : va_S A s.heap s.heap [] := va_S.rf
  have hP : va_P (dC, dI) vwCl [(h0, .inr (11, oX w sg ro tr gX)), (w, .inr (10, oW kd gW 0 0))] s.heap := hP
  have hl := lv_entry ([.ref h0, .int a0, .int a1, .ref ou]) (n := 5) (Nat.le_of_ble_eq_true rfl)
  rw [lg_entry_eq]
  generalize (lg_sl ([.ref h0, .int a0, .int a1, .ref ou]) ++ List.replicate (5 - (lg_sl ([.ref h0, .int a0, .int a1, .ref ou])).length) Slot.unset).toArray = ls at hl ⊢
  have hl : lv_has ls 5 [(0, .ref h0), (1, .int a0), (2, .int a1), (3, .ref ou)] := hl
  refine lv_aload_n hx hb dL_net_0 rfl (lv_at hl 3 rfl) ?_
  refine lv_iconst (v := 0) hx hb dL_net_1 (by decide) ?_
  refine lv_aload_n hx hb dL_net_2 rfl (lv_at hl 0 rfl) ?_
  refine lv_iload_n hx hb dL_net_3 rfl (lv_at hl 1 rfl) ?_
  refine lv_iload_n hx hb dL_net_4 rfl (lv_at hl 2 rfl) ?_
  have hPc := hP.sub (ws' := [(h0, .inr (11, oX w sg ro tr gX)), (w, .inr (10, oW kd gW 0 0))]) [0, 1] rfl
  have hDc := hD.sub (ws' := [(h0, .inr (11, oX w sg ro tr gX)), (w, .inr (10, oW kd gW 0 0))]) [0, 1] (by decide) rfl
  have hKc := hK.sub (tys' := []) [] rfl
  have hFc := roF hS hA
  refine vx_calli (vx_runV (As := [.int a0, .int a1]) (rest := [.int 0, .ref ou]) ⟨hx, hb, hml, hown, hts⟩ (c_X11_net l dC dI s.heap.size hfl h0 w sg ro tr gX kd gW a0 a1) (cwV 2 hts (gV u_716 u_717 u_718 u_1 u_719) rfl rfl rfl (by decide +kernel) ⟨Nat.le_of_ble_eq_true rfl, Nat.le_of_ble_eq_true rfl⟩) ⟨gPZ_blind, va_recv hKc hPc (ci := 11) (q0 := 0) rfl rfl, gPZ_call hPc hKc hDc hE hZ hS hFc⟩ rfl rfl hl.1 rfl (lv_room (Nat.le_of_ble_eq_true rfl)) dL_net_5 ⟨(Nat.le_of_ble_eq_true rfl), (Nat.le_of_ble_eq_true rfl)⟩) hS (fun q _ h => hFc q h) hFc (fun q _ h => hFc q h) (fun E9 ce9 q87 u9 t9 H85 locs ht hvm hpx hBX hz1 hk1 hS hce hcv hcl => ?_) (fun r86 u9 t9 H85 locs ht hvm hw hB hz1 hk1 hS => hw.elim)
  subst hBX
  refine vx_widen (k := 1) (n := 6) (Nat.le_of_ble_eq_true rfl) (Nat.le_of_ble_eq_true rfl) ?_
  refine vx_catch (pc := 5) hown [] ⟨0, 10, 13, 21⟩ [⟨0, 10, 17, 13⟩] (by rw [htab]; rfl) (fun z hz => nomatch hz) (by decide) (by decide) (hts _ u_606) (va_Nw.use rfl (hE.1 _ n_8)) hce hcv hcl ?_
  have hP := roP hP hk1
  refine lv_astore (lv' := [(4, .ref q87), (0, .ref h0), (1, .int a0), (2, .int a1), (3, .ref ou)]) hx hb dL_net_13 hl (by decide) rfl (fun ls hl => ?_)
  refine lv_iconst (v := 1) hx hb dL_net_15 (by decide) ?_
  refine W.widen (k := 1) (n := 6) (Nat.le_of_ble_eq_true rfl) (Nat.le_of_ble_eq_true rfl) ?_
  exact W.iret (v := 1) hx hb hr (fun t ht hW => ⟨⟨1, (), rfl, rfl, trivial⟩, hS.F ht⟩) hS.2.2 dL_net_16
set_option maxHeartbeats 4000000 in
set_option maxRecDepth 100000 in
theorem c_L_sees (l : Launch) (dC : Nat → ClassId) (dI : Nat → Nat → Nat) (sz : Nat) (hfl : l.stackTraces = false) (h0 : Nat) (ou : Nat) (w : Nat) (sg : Nat) (ro : Nat) (tr : Nat) (gX : Nat → Nat) (kd : Nat) (gW : Nat → Nat) (a0 : Int32) (a1 : Int32) : Met l yL_sees (Cond.codeWith yL_sees cL_sees 5 (some .int) [(0, 17, 20, 21), (0, 17, 24, 13)] :: gU) ({ frames := 8, cells := 1, slots := 6, locals := 125 }) (gPZ dC dI sz [(h0, .inr (11, oX w sg ro tr gX)), (w, .inr (10, oW kd gW 0 0))] [] (va_A [] sz) [.ref h0, .int a0, .int a1, .ref ou]) (va_Qi (fun (r : Int32) (_ : Unit) => r = 1) (fun _ _ => True) (va_A [] sz)) 1 6 (va_A [] sz) := by
  refine va_MetW (cc := cL_sees) (maxL := 5) (ret := (some .int)) (by decide) rfl ?_
  intro p e s m args below meth c s₁ B hml hv
  obtain ⟨rfl, hsz, hP, hK, hD0, hE, hZ⟩ := hv
  have hx := B.exec
  have hb := B.bytes
  have hr := B.returns
  have hts0 := atoms_spec (ws := Cond.codeWith yL_sees cL_sees 5 (some .int) [(0, 17, 20, 21), (0, 17, 24, 13)] :: gU) B.pre
  have hts : ∀ w ∈ gU, w.before _ s = true := fun w h => hts0 w (List.mem_cons_of_mem _ h)
  have hown : s.vm.findClass RL = some m.cls := findClass_of_methodNamed B.named
  have hlocks := B.notSynchronized
  have htab := vx_table (x := yL_sees) B (hts0 _ List.mem_cons_self)
  subst hsz
  have hD := hD0
  generalize hAe : va_A [] s.heap.size = A at hZ ⊢
  have hA : ∀ q : Nat, s.heap.size ≤ q → A q := fun q h => by rw [← hAe]; exact Or.inr h
  have hS : va_S A s.heap s.heap [] := va_S.rf
  have hP : va_P (dC, dI) vwCl [(h0, .inr (11, oX w sg ro tr gX)), (w, .inr (10, oW kd gW 0 0))] s.heap := hP
  have hl := lv_entry ([.ref h0, .int a0, .int a1, .ref ou]) (n := 5) (Nat.le_of_ble_eq_true rfl)
  rw [lg_entry_eq]
  generalize (lg_sl ([.ref h0, .int a0, .int a1, .ref ou]) ++ List.replicate (5 - (lg_sl ([.ref h0, .int a0, .int a1, .ref ou])).length) Slot.unset).toArray = ls at hl ⊢
  have hl : lv_has ls 5 [(0, .ref h0), (1, .int a0), (2, .int a1), (3, .ref ou)] := hl
  refine lv_aload_n hx hb dL_sees_0 rfl (lv_at hl 3 rfl) ?_
  refine lv_iconst (v := 0) hx hb dL_sees_1 (by decide) ?_
  refine lv_aload_n hx hb dL_sees_2 rfl (lv_at hl 0 rfl) ?_
  refine lv_iload_n hx hb dL_sees_3 rfl (lv_at hl 1 rfl) ?_
  refine lv_iload_n hx hb dL_sees_4 rfl (lv_at hl 2 rfl) ?_
  have hPc := hP.sub (ws' := [(h0, .inr (11, oX w sg ro tr gX)), (w, .inr (10, oW kd gW 0 0))]) [0, 1] rfl
  have hDc := hD.sub (ws' := [(h0, .inr (11, oX w sg ro tr gX)), (w, .inr (10, oW kd gW 0 0))]) [0, 1] (by decide) rfl
  have hKc := hK.sub (tys' := []) [] rfl
  have hFc := roF hS hA
  refine vx_calli (vx_runV (As := [.int a0, .int a1]) (rest := [.int 0, .ref ou]) ⟨hx, hb, hml, hown, hts⟩ (c_X11_sees l dC dI s.heap.size hfl h0 w sg ro tr gX kd gW a0 a1) (cwV 2 hts (gV u_724 u_725 u_726 u_1 u_727) rfl rfl rfl (by decide +kernel) ⟨Nat.le_of_ble_eq_true rfl, Nat.le_of_ble_eq_true rfl⟩) ⟨gPZ_blind, va_recv hKc hPc (ci := 11) (q0 := 0) rfl rfl, gPZ_call hPc hKc hDc hE hZ hS hFc⟩ rfl rfl hl.1 rfl (lv_room (Nat.le_of_ble_eq_true rfl)) dL_sees_5 ⟨(Nat.le_of_ble_eq_true rfl), (Nat.le_of_ble_eq_true rfl)⟩) hS (fun q _ h => hFc q h) hFc (fun q _ h => hFc q h) (fun E9 ce9 q90 u9 t9 H88 locs ht hvm hpx hBX hz1 hk1 hS hce hcv hcl => ?_) (fun r89 u9 t9 H88 locs ht hvm hw hB hz1 hk1 hS => hw.elim)
  subst hBX
  refine vx_widen (k := 1) (n := 6) (Nat.le_of_ble_eq_true rfl) (Nat.le_of_ble_eq_true rfl) ?_
  refine vx_catch (pc := 5) hown [] ⟨0, 17, 20, 21⟩ [⟨0, 17, 24, 13⟩] (by rw [htab]; rfl) (fun z hz => nomatch hz) (by decide) (by decide) (hts _ u_606) (va_Nw.use rfl (hE.1 _ n_8)) hce hcv hcl ?_
  have hP := roP hP hk1
  refine lv_astore (lv' := [(4, .ref q90), (0, .ref h0), (1, .int a0), (2, .int a1), (3, .ref ou)]) hx hb dL_sees_20 hl (by decide) rfl (fun ls hl => ?_)
  refine lv_iconst (v := 1) hx hb dL_sees_22 (by decide) ?_
  refine W.widen (k := 1) (n := 6) (Nat.le_of_ble_eq_true rfl) (Nat.le_of_ble_eq_true rfl) ?_
  exact W.iret (v := 1) hx hb hr (fun t ht hW => ⟨⟨1, (), rfl, rfl, trivial⟩, hS.F ht⟩) hS.2.2 dL_sees_23
set_option maxHeartbeats 4000000 in
set_option maxRecDepth 100000 in
theorem c_L_address (l : Launch) (dC : Nat → ClassId) (dI : Nat → Nat → Nat) (sz : Nat) (hfl : l.stackTraces = false) (h0 : Nat) (ou : Nat) (w : Nat) (sg : Nat) (ro : Nat) (tr : Nat) (gX : Nat → Nat) (kd : Nat) (gW : Nat → Nat) (a0 : Int32) (a1 : Int32) (a2 : Int32) : Met l yL_address (Cond.codeWith yL_address cL_address 6 (some .int) [(0, 12, 15, 21), (0, 12, 19, 13)] :: gU) ({ frames := 8, cells := 1, slots := 6, locals := 127 }) (gPZ dC dI sz [(h0, .inr (11, oX w sg ro tr gX)), (w, .inr (10, oW kd gW 0 0))] [] (va_A [] sz) [.ref h0, .int a0, .int a1, .int a2, .ref ou]) (va_Qi (fun (r : Int32) (_ : Unit) => r = 1) (fun _ _ => True) (va_A [] sz)) 1 6 (va_A [] sz) := by
  refine va_MetW (cc := cL_address) (maxL := 6) (ret := (some .int)) (by decide) rfl ?_
  intro p e s m args below meth c s₁ B hml hv
  obtain ⟨rfl, hsz, hP, hK, hD0, hE, hZ⟩ := hv
  have hx := B.exec
  have hb := B.bytes
  have hr := B.returns
  have hts0 := atoms_spec (ws := Cond.codeWith yL_address cL_address 6 (some .int) [(0, 12, 15, 21), (0, 12, 19, 13)] :: gU) B.pre
  have hts : ∀ w ∈ gU, w.before _ s = true := fun w h => hts0 w (List.mem_cons_of_mem _ h)
  have hown : s.vm.findClass RL = some m.cls := findClass_of_methodNamed B.named
  have hlocks := B.notSynchronized
  have htab := vx_table (x := yL_address) B (hts0 _ List.mem_cons_self)
  subst hsz
  have hD := hD0
  generalize hAe : va_A [] s.heap.size = A at hZ ⊢
  have hA : ∀ q : Nat, s.heap.size ≤ q → A q := fun q h => by rw [← hAe]; exact Or.inr h
  have hS : va_S A s.heap s.heap [] := va_S.rf
  have hP : va_P (dC, dI) vwCl [(h0, .inr (11, oX w sg ro tr gX)), (w, .inr (10, oW kd gW 0 0))] s.heap := hP
  have hl := lv_entry ([.ref h0, .int a0, .int a1, .int a2, .ref ou]) (n := 6) (Nat.le_of_ble_eq_true rfl)
  rw [lg_entry_eq]
  generalize (lg_sl ([.ref h0, .int a0, .int a1, .int a2, .ref ou]) ++ List.replicate (6 - (lg_sl ([.ref h0, .int a0, .int a1, .int a2, .ref ou])).length) Slot.unset).toArray = ls at hl ⊢
  have hl : lv_has ls 6 [(0, .ref h0), (1, .int a0), (2, .int a1), (3, .int a2), (4, .ref ou)] := hl
  refine lv_aload hx hb dL_address_0 (lv_at hl 4 rfl) ?_
  refine lv_iconst (v := 0) hx hb dL_address_2 (by decide) ?_
  refine lv_aload_n hx hb dL_address_3 rfl (lv_at hl 0 rfl) ?_
  refine lv_iload_n hx hb dL_address_4 rfl (lv_at hl 1 rfl) ?_
  refine lv_iload_n hx hb dL_address_5 rfl (lv_at hl 2 rfl) ?_
  refine lv_iload_n hx hb dL_address_6 rfl (lv_at hl 3 rfl) ?_
  have hPc := hP.sub (ws' := [(h0, .inr (11, oX w sg ro tr gX)), (w, .inr (10, oW kd gW 0 0))]) [0, 1] rfl
  have hDc := hD.sub (ws' := [(h0, .inr (11, oX w sg ro tr gX)), (w, .inr (10, oW kd gW 0 0))]) [0, 1] (by decide) rfl
  have hKc := hK.sub (tys' := []) [] rfl
  have hFc := roF hS hA
  refine vx_calli (vx_runV (As := [.int a0, .int a1, .int a2]) (rest := [.int 0, .ref ou]) ⟨hx, hb, hml, hown, hts⟩ (c_X11_address l dC dI s.heap.size hfl h0 w sg ro tr gX kd gW a0 a1 a2) (cwV 3 hts (gV u_761 u_762 u_763 u_1 u_764) rfl rfl rfl (by decide +kernel) ⟨Nat.le_of_ble_eq_true rfl, Nat.le_of_ble_eq_true rfl⟩) ⟨gPZ_blind, va_recv hKc hPc (ci := 11) (q0 := 0) rfl rfl, gPZ_call hPc hKc hDc hE hZ hS hFc⟩ rfl rfl hl.1 rfl (lv_room (Nat.le_of_ble_eq_true rfl)) dL_address_7 ⟨(Nat.le_of_ble_eq_true rfl), (Nat.le_of_ble_eq_true rfl)⟩) hS (fun q _ h => hFc q h) hFc (fun q _ h => hFc q h) (fun E9 ce9 q93 u9 t9 H91 locs ht hvm hpx hBX hz1 hk1 hS hce hcv hcl => ?_) (fun r92 u9 t9 H91 locs ht hvm hw hB hz1 hk1 hS => hw.elim)
  subst hBX
  refine vx_widen (k := 1) (n := 6) (Nat.le_of_ble_eq_true rfl) (Nat.le_of_ble_eq_true rfl) ?_
  refine vx_catch (pc := 7) hown [] ⟨0, 12, 15, 21⟩ [⟨0, 12, 19, 13⟩] (by rw [htab]; rfl) (fun z hz => nomatch hz) (by decide) (by decide) (hts _ u_606) (va_Nw.use rfl (hE.1 _ n_8)) hce hcv hcl ?_
  have hP := roP hP hk1
  refine lv_astore (lv' := [(5, .ref q93), (0, .ref h0), (1, .int a0), (2, .int a1), (3, .int a2), (4, .ref ou)]) hx hb dL_address_15 hl (by decide) rfl (fun ls hl => ?_)
  refine lv_iconst (v := 1) hx hb dL_address_17 (by decide) ?_
  refine W.widen (k := 1) (n := 6) (Nat.le_of_ble_eq_true rfl) (Nat.le_of_ble_eq_true rfl) ?_
  exact W.iret (v := 1) hx hb hr (fun t ht hW => ⟨⟨1, (), rfl, rfl, trivial⟩, hS.F ht⟩) hS.2.2 dL_address_18
set_option maxHeartbeats 4000000 in
set_option maxRecDepth 100000 in
theorem c_L_gateway (l : Launch) (dC : Nat → ClassId) (dI : Nat → Nat → Nat) (sz : Nat) (hfl : l.stackTraces = false) (h0 : Nat) (ou : Nat) (w : Nat) (sg : Nat) (ro : Nat) (tr : Nat) (gX : Nat → Nat) (kd : Nat) (gW : Nat → Nat) (a0 : Int32) (a1 : Int32) : Met l yL_gateway (Cond.codeWith yL_gateway cL_gateway 5 (some .int) [(0, 10, 13, 21), (0, 10, 17, 13)] :: gU) ({ frames := 8, cells := 1, slots := 6, locals := 126 }) (gPZ dC dI sz [(h0, .inr (11, oX w sg ro tr gX)), (w, .inr (10, oW kd gW 0 0))] [] (va_A [] sz) [.ref h0, .int a0, .int a1, .ref ou]) (va_Qi (fun (r : Int32) (_ : Unit) => r = 1) (fun _ _ => True) (va_A [] sz)) 1 6 (va_A [] sz) := by
  refine va_MetW (cc := cL_gateway) (maxL := 5) (ret := (some .int)) (by decide) rfl ?_
  intro p e s m args below meth c s₁ B hml hv
  obtain ⟨rfl, hsz, hP, hK, hD0, hE, hZ⟩ := hv
  have hx := B.exec
  have hb := B.bytes
  have hr := B.returns
  have hts0 := atoms_spec (ws := Cond.codeWith yL_gateway cL_gateway 5 (some .int) [(0, 10, 13, 21), (0, 10, 17, 13)] :: gU) B.pre
  have hts : ∀ w ∈ gU, w.before _ s = true := fun w h => hts0 w (List.mem_cons_of_mem _ h)
  have hown : s.vm.findClass RL = some m.cls := findClass_of_methodNamed B.named
  have hlocks := B.notSynchronized
  have htab := vx_table (x := yL_gateway) B (hts0 _ List.mem_cons_self)
  subst hsz
  have hD := hD0
  generalize hAe : va_A [] s.heap.size = A at hZ ⊢
  have hA : ∀ q : Nat, s.heap.size ≤ q → A q := fun q h => by rw [← hAe]; exact Or.inr h
  have hS : va_S A s.heap s.heap [] := va_S.rf
  have hP : va_P (dC, dI) vwCl [(h0, .inr (11, oX w sg ro tr gX)), (w, .inr (10, oW kd gW 0 0))] s.heap := hP
  have hl := lv_entry ([.ref h0, .int a0, .int a1, .ref ou]) (n := 5) (Nat.le_of_ble_eq_true rfl)
  rw [lg_entry_eq]
  generalize (lg_sl ([.ref h0, .int a0, .int a1, .ref ou]) ++ List.replicate (5 - (lg_sl ([.ref h0, .int a0, .int a1, .ref ou])).length) Slot.unset).toArray = ls at hl ⊢
  have hl : lv_has ls 5 [(0, .ref h0), (1, .int a0), (2, .int a1), (3, .ref ou)] := hl
  refine lv_aload_n hx hb dL_gateway_0 rfl (lv_at hl 3 rfl) ?_
  refine lv_iconst (v := 0) hx hb dL_gateway_1 (by decide) ?_
  refine lv_aload_n hx hb dL_gateway_2 rfl (lv_at hl 0 rfl) ?_
  refine lv_iload_n hx hb dL_gateway_3 rfl (lv_at hl 1 rfl) ?_
  refine lv_iload_n hx hb dL_gateway_4 rfl (lv_at hl 2 rfl) ?_
  have hPc := hP.sub (ws' := [(h0, .inr (11, oX w sg ro tr gX)), (w, .inr (10, oW kd gW 0 0))]) [0, 1] rfl
  have hDc := hD.sub (ws' := [(h0, .inr (11, oX w sg ro tr gX)), (w, .inr (10, oW kd gW 0 0))]) [0, 1] (by decide) rfl
  have hKc := hK.sub (tys' := []) [] rfl
  have hFc := roF hS hA
  refine vx_calli (vx_runV (As := [.int a0, .int a1]) (rest := [.int 0, .ref ou]) ⟨hx, hb, hml, hown, hts⟩ (c_X11_gateway l dC dI s.heap.size hfl h0 w sg ro tr gX kd gW a0 a1) (cwV 2 hts (gV u_778 u_779 u_780 u_1 u_781) rfl rfl rfl (by decide +kernel) ⟨Nat.le_of_ble_eq_true rfl, Nat.le_of_ble_eq_true rfl⟩) ⟨gPZ_blind, va_recv hKc hPc (ci := 11) (q0 := 0) rfl rfl, gPZ_call hPc hKc hDc hE hZ hS hFc⟩ rfl rfl hl.1 rfl (lv_room (Nat.le_of_ble_eq_true rfl)) dL_gateway_5 ⟨(Nat.le_of_ble_eq_true rfl), (Nat.le_of_ble_eq_true rfl)⟩) hS (fun q _ h => hFc q h) hFc (fun q _ h => hFc q h) (fun E9 ce9 q96 u9 t9 H94 locs ht hvm hpx hBX hz1 hk1 hS hce hcv hcl => ?_) (fun r95 u9 t9 H94 locs ht hvm hw hB hz1 hk1 hS => hw.elim)
  subst hBX
  refine vx_widen (k := 1) (n := 6) (Nat.le_of_ble_eq_true rfl) (Nat.le_of_ble_eq_true rfl) ?_
  refine vx_catch (pc := 5) hown [] ⟨0, 10, 13, 21⟩ [⟨0, 10, 17, 13⟩] (by rw [htab]; rfl) (fun z hz => nomatch hz) (by decide) (by decide) (hts _ u_606) (va_Nw.use rfl (hE.1 _ n_8)) hce hcv hcl ?_
  have hP := roP hP hk1
  refine lv_astore (lv' := [(4, .ref q96), (0, .ref h0), (1, .int a0), (2, .int a1), (3, .ref ou)]) hx hb dL_gateway_13 hl (by decide) rfl (fun ls hl => ?_)
  refine lv_iconst (v := 1) hx hb dL_gateway_15 (by decide) ?_
  refine W.widen (k := 1) (n := 6) (Nat.le_of_ble_eq_true rfl) (Nat.le_of_ble_eq_true rfl) ?_
  exact W.iret (v := 1) hx hb hr (fun t ht hW => ⟨⟨1, (), rfl, rfl, trivial⟩, hS.F ht⟩) hS.2.2 dL_gateway_16
set_option maxHeartbeats 4000000 in
set_option maxRecDepth 100000 in
theorem c_L_route (l : Launch) (dC : Nat → ClassId) (dI : Nat → Nat → Nat) (sz : Nat) (hfl : l.stackTraces = false) (h0 : Nat) (ou : Nat) (w : Nat) (sg : Nat) (ro : Nat) (tr : Nat) (gX : Nat → Nat) (kd : Nat) (gW : Nat → Nat) (a0 : Int32) (a1 : Int32) (a2 : Int32) (a3 : Int32) : Met l yL_route (Cond.codeWith yL_route cL_route 7 (some .int) [(0, 14, 17, 21), (0, 14, 21, 13), (0, 14, 25, 15)] :: gU) ({ frames := 8, cells := 1, slots := 6, locals := 128 }) (gPZ dC dI sz [(h0, .inr (11, oX w sg ro tr gX)), (w, .inr (10, oW kd gW 0 0))] [] (va_A [] sz) [.ref h0, .int a0, .int a1, .int a2, .int a3, .ref ou]) (va_Qi (fun (r : Int32) (_ : Unit) => r = 1) (fun _ _ => True) (va_A [] sz)) 1 6 (va_A [] sz) := by
  refine va_MetW (cc := cL_route) (maxL := 7) (ret := (some .int)) (by decide) rfl ?_
  intro p e s m args below meth c s₁ B hml hv
  obtain ⟨rfl, hsz, hP, hK, hD0, hE, hZ⟩ := hv
  have hx := B.exec
  have hb := B.bytes
  have hr := B.returns
  have hts0 := atoms_spec (ws := Cond.codeWith yL_route cL_route 7 (some .int) [(0, 14, 17, 21), (0, 14, 21, 13), (0, 14, 25, 15)] :: gU) B.pre
  have hts : ∀ w ∈ gU, w.before _ s = true := fun w h => hts0 w (List.mem_cons_of_mem _ h)
  have hown : s.vm.findClass RL = some m.cls := findClass_of_methodNamed B.named
  have hlocks := B.notSynchronized
  have htab := vx_table (x := yL_route) B (hts0 _ List.mem_cons_self)
  subst hsz
  have hD := hD0
  generalize hAe : va_A [] s.heap.size = A at hZ ⊢
  have hA : ∀ q : Nat, s.heap.size ≤ q → A q := fun q h => by rw [← hAe]; exact Or.inr h
  have hS : va_S A s.heap s.heap [] := va_S.rf
  have hP : va_P (dC, dI) vwCl [(h0, .inr (11, oX w sg ro tr gX)), (w, .inr (10, oW kd gW 0 0))] s.heap := hP
  have hl := lv_entry ([.ref h0, .int a0, .int a1, .int a2, .int a3, .ref ou]) (n := 7) (Nat.le_of_ble_eq_true rfl)
  rw [lg_entry_eq]
  generalize (lg_sl ([.ref h0, .int a0, .int a1, .int a2, .int a3, .ref ou]) ++ List.replicate (7 - (lg_sl ([.ref h0, .int a0, .int a1, .int a2, .int a3, .ref ou])).length) Slot.unset).toArray = ls at hl ⊢
  have hl : lv_has ls 7 [(0, .ref h0), (1, .int a0), (2, .int a1), (3, .int a2), (4, .int a3), (5, .ref ou)] := hl
  refine lv_aload hx hb dL_route_0 (lv_at hl 5 rfl) ?_
  refine lv_iconst (v := 0) hx hb dL_route_2 (by decide) ?_
  refine lv_aload_n hx hb dL_route_3 rfl (lv_at hl 0 rfl) ?_
  refine lv_iload_n hx hb dL_route_4 rfl (lv_at hl 1 rfl) ?_
  refine lv_iload_n hx hb dL_route_5 rfl (lv_at hl 2 rfl) ?_
  refine lv_iload_n hx hb dL_route_6 rfl (lv_at hl 3 rfl) ?_
  refine lv_iload hx hb dL_route_7 (lv_at hl 4 rfl) ?_
  have hPc := hP.sub (ws' := [(h0, .inr (11, oX w sg ro tr gX)), (w, .inr (10, oW kd gW 0 0))]) [0, 1] rfl
  have hDc := hD.sub (ws' := [(h0, .inr (11, oX w sg ro tr gX)), (w, .inr (10, oW kd gW 0 0))]) [0, 1] (by decide) rfl
  have hKc := hK.sub (tys' := []) [] rfl
  have hFc := roF hS hA
  refine vx_calli (vx_runV (As := [.int a0, .int a1, .int a2, .int a3]) (rest := [.int 0, .ref ou]) ⟨hx, hb, hml, hown, hts⟩ (c_X11_route l dC dI s.heap.size hfl h0 w sg ro tr gX kd gW a0 a1 a2 a3) (cwV 4 hts (gV u_794 u_795 u_796 u_1 u_797) rfl rfl rfl (by decide +kernel) ⟨Nat.le_of_ble_eq_true rfl, Nat.le_of_ble_eq_true rfl⟩) ⟨gPZ_blind, va_recv hKc hPc (ci := 11) (q0 := 0) rfl rfl, gPZ_call hPc hKc hDc hE hZ hS hFc⟩ rfl rfl hl.1 rfl (lv_room (Nat.le_of_ble_eq_true rfl)) dL_route_9 ⟨(Nat.le_of_ble_eq_true rfl), (Nat.le_of_ble_eq_true rfl)⟩) hS (fun q _ h => hFc q h) hFc (fun q _ h => hFc q h) (fun E9 ce9 q99 u9 t9 H97 locs ht hvm hpx hBX hz1 hk1 hS hce hcv hcl => ?_) (fun r98 u9 t9 H97 locs ht hvm hw hB hz1 hk1 hS => hw.elim)
  subst hBX
  refine vx_widen (k := 1) (n := 6) (Nat.le_of_ble_eq_true rfl) (Nat.le_of_ble_eq_true rfl) ?_
  refine vx_catch (pc := 9) hown [] ⟨0, 14, 17, 21⟩ [⟨0, 14, 21, 13⟩, ⟨0, 14, 25, 15⟩] (by rw [htab]; rfl) (fun z hz => nomatch hz) (by decide) (by decide) (hts _ u_606) (va_Nw.use rfl (hE.1 _ n_8)) hce hcv hcl ?_
  have hP := roP hP hk1
  refine lv_astore (lv' := [(6, .ref q99), (0, .ref h0), (1, .int a0), (2, .int a1), (3, .int a2), (4, .int a3), (5, .ref ou)]) hx hb dL_route_17 hl (by decide) rfl (fun ls hl => ?_)
  refine lv_iconst (v := 1) hx hb dL_route_19 (by decide) ?_
  refine W.widen (k := 1) (n := 6) (Nat.le_of_ble_eq_true rfl) (Nat.le_of_ble_eq_true rfl) ?_
  exact W.iret (v := 1) hx hb hr (fun t ht hW => ⟨⟨1, (), rfl, rfl, trivial⟩, hS.F ht⟩) hS.2.2 dL_route_20
set_option maxHeartbeats 4000000 in
set_option maxRecDepth 100000 in
theorem c_L_rule (l : Launch) (dC : Nat → ClassId) (dI : Nat → Nat → Nat) (sz : Nat) (hfl : l.stackTraces = false) (h0 : Nat) (ou : Nat) (w : Nat) (sg : Nat) (ro : Nat) (tr : Nat) (gX : Nat → Nat) (kd : Nat) (gW : Nat → Nat) (a0 : Int32) (a1 : Int32) (a2 : Int32) (a3 : Int32) (a4 : Int32) (a5 : Int32) (a6 : Int32) : Met l yL_rule (Cond.codeWith yL_rule cL_rule 10 (some .int) [(0, 20, 23, 21), (0, 20, 27, 13), (0, 20, 31, 15)] :: gU) ({ frames := 8, cells := 1, slots := 6, locals := 131 }) (gPZ dC dI sz [(h0, .inr (11, oX w sg ro tr gX)), (w, .inr (10, oW kd gW 0 0))] [] (va_A [] sz) [.ref h0, .int a0, .int a1, .int a2, .int a3, .int a4, .int a5, .int a6, .ref ou]) (va_Qi (fun (r : Int32) (_ : Unit) => r = 1) (fun _ _ => True) (va_A [] sz)) 1 6 (va_A [] sz) := by
  refine va_MetW (cc := cL_rule) (maxL := 10) (ret := (some .int)) (by decide) rfl ?_
  intro p e s m args below meth c s₁ B hml hv
  obtain ⟨rfl, hsz, hP, hK, hD0, hE, hZ⟩ := hv
  have hx := B.exec
  have hb := B.bytes
  have hr := B.returns
  have hts0 := atoms_spec (ws := Cond.codeWith yL_rule cL_rule 10 (some .int) [(0, 20, 23, 21), (0, 20, 27, 13), (0, 20, 31, 15)] :: gU) B.pre
  have hts : ∀ w ∈ gU, w.before _ s = true := fun w h => hts0 w (List.mem_cons_of_mem _ h)
  have hown : s.vm.findClass RL = some m.cls := findClass_of_methodNamed B.named
  have hlocks := B.notSynchronized
  have htab := vx_table (x := yL_rule) B (hts0 _ List.mem_cons_self)
  subst hsz
  have hD := hD0
  generalize hAe : va_A [] s.heap.size = A at hZ ⊢
  have hA : ∀ q : Nat, s.heap.size ≤ q → A q := fun q h => by rw [← hAe]; exact Or.inr h
  have hS : va_S A s.heap s.heap [] := va_S.rf
  have hP : va_P (dC, dI) vwCl [(h0, .inr (11, oX w sg ro tr gX)), (w, .inr (10, oW kd gW 0 0))] s.heap := hP
  have hl := lv_entry ([.ref h0, .int a0, .int a1, .int a2, .int a3, .int a4, .int a5, .int a6, .ref ou]) (n := 10) (Nat.le_of_ble_eq_true rfl)
  rw [lg_entry_eq]
  generalize (lg_sl ([.ref h0, .int a0, .int a1, .int a2, .int a3, .int a4, .int a5, .int a6, .ref ou]) ++ List.replicate (10 - (lg_sl ([.ref h0, .int a0, .int a1, .int a2, .int a3, .int a4, .int a5, .int a6, .ref ou])).length) Slot.unset).toArray = ls at hl ⊢
  have hl : lv_has ls 10 [(0, .ref h0), (1, .int a0), (2, .int a1), (3, .int a2), (4, .int a3), (5, .int a4), (6, .int a5), (7, .int a6), (8, .ref ou)] := hl
  refine lv_aload hx hb dL_rule_0 (lv_at hl 8 rfl) ?_
  refine lv_iconst (v := 0) hx hb dL_rule_2 (by decide) ?_
  refine lv_aload_n hx hb dL_rule_3 rfl (lv_at hl 0 rfl) ?_
  refine lv_iload_n hx hb dL_rule_4 rfl (lv_at hl 1 rfl) ?_
  refine lv_iload_n hx hb dL_rule_5 rfl (lv_at hl 2 rfl) ?_
  refine lv_iload_n hx hb dL_rule_6 rfl (lv_at hl 3 rfl) ?_
  refine lv_iload hx hb dL_rule_7 (lv_at hl 4 rfl) ?_
  refine lv_iload hx hb dL_rule_9 (lv_at hl 5 rfl) ?_
  refine lv_iload hx hb dL_rule_11 (lv_at hl 6 rfl) ?_
  refine lv_iload hx hb dL_rule_13 (lv_at hl 7 rfl) ?_
  have hPc := hP.sub (ws' := [(h0, .inr (11, oX w sg ro tr gX)), (w, .inr (10, oW kd gW 0 0))]) [0, 1] rfl
  have hDc := hD.sub (ws' := [(h0, .inr (11, oX w sg ro tr gX)), (w, .inr (10, oW kd gW 0 0))]) [0, 1] (by decide) rfl
  have hKc := hK.sub (tys' := []) [] rfl
  have hFc := roF hS hA
  refine vx_calli (vx_runV (As := [.int a0, .int a1, .int a2, .int a3, .int a4, .int a5, .int a6]) (rest := [.int 0, .ref ou]) ⟨hx, hb, hml, hown, hts⟩ (c_X11_rule l dC dI s.heap.size hfl h0 w sg ro tr gX kd gW a0 a1 a2 a3 a4 a5 a6) (cwV 7 hts (gV u_808 u_809 u_810 u_1 u_811) rfl rfl rfl (by decide +kernel) ⟨Nat.le_of_ble_eq_true rfl, Nat.le_of_ble_eq_true rfl⟩) ⟨gPZ_blind, va_recv hKc hPc (ci := 11) (q0 := 0) rfl rfl, gPZ_call hPc hKc hDc hE hZ hS hFc⟩ rfl rfl hl.1 rfl (lv_room (Nat.le_of_ble_eq_true rfl)) dL_rule_15 ⟨(Nat.le_of_ble_eq_true rfl), (Nat.le_of_ble_eq_true rfl)⟩) hS (fun q _ h => hFc q h) hFc (fun q _ h => hFc q h) (fun E9 ce9 q102 u9 t9 H100 locs ht hvm hpx hBX hz1 hk1 hS hce hcv hcl => ?_) (fun r101 u9 t9 H100 locs ht hvm hw hB hz1 hk1 hS => hw.elim)
  subst hBX
  refine vx_widen (k := 1) (n := 6) (Nat.le_of_ble_eq_true rfl) (Nat.le_of_ble_eq_true rfl) ?_
  refine vx_catch (pc := 15) hown [] ⟨0, 20, 23, 21⟩ [⟨0, 20, 27, 13⟩, ⟨0, 20, 31, 15⟩] (by rw [htab]; rfl) (fun z hz => nomatch hz) (by decide) (by decide) (hts _ u_606) (va_Nw.use rfl (hE.1 _ n_8)) hce hcv hcl ?_
  have hP := roP hP hk1
  refine lv_astore (lv' := [(9, .ref q102), (0, .ref h0), (1, .int a0), (2, .int a1), (3, .int a2), (4, .int a3), (5, .int a4), (6, .int a5), (7, .int a6), (8, .ref ou)]) hx hb dL_rule_23 hl (by decide) rfl (fun ls hl => ?_)
  refine lv_iconst (v := 1) hx hb dL_rule_25 (by decide) ?_
  refine W.widen (k := 1) (n := 6) (Nat.le_of_ble_eq_true rfl) (Nat.le_of_ble_eq_true rfl) ?_
  exact W.iret (v := 1) hx hb hr (fun t ht hW => ⟨⟨1, (), rfl, rfl, trivial⟩, hS.F ht⟩) hS.2.2 dL_rule_26
set_option maxHeartbeats 4000000 in
set_option maxRecDepth 100000 in
theorem c_L_watch (l : Launch) (dC : Nat → ClassId) (dI : Nat → Nat → Nat) (sz : Nat) (hfl : l.stackTraces = false) (h0 : Nat) (ou : Nat) (w : Nat) (sg : Nat) (ro : Nat) (tr : Nat) (gX : Nat → Nat) (kd : Nat) (gW : Nat → Nat) (a0 : Int32) (a1 : Int32) : Met l yL_watch (Cond.codeWith yL_watch cL_watch 5 (some .int) [(0, 17, 20, 21), (0, 17, 24, 13)] :: gU) ({ frames := 8, cells := 1, slots := 6, locals := 125 }) (gPZ dC dI sz [(h0, .inr (11, oX w sg ro tr gX)), (w, .inr (10, oW kd gW 0 0))] [] (va_A [] sz) [.ref h0, .int a0, .int a1, .ref ou]) (va_Qi (fun (r : Int32) (_ : Unit) => r = 1) (fun _ _ => True) (va_A [] sz)) 1 6 (va_A [] sz) := by
  refine va_MetW (cc := cL_watch) (maxL := 5) (ret := (some .int)) (by decide) rfl ?_
  intro p e s m args below meth c s₁ B hml hv
  obtain ⟨rfl, hsz, hP, hK, hD0, hE, hZ⟩ := hv
  have hx := B.exec
  have hb := B.bytes
  have hr := B.returns
  have hts0 := atoms_spec (ws := Cond.codeWith yL_watch cL_watch 5 (some .int) [(0, 17, 20, 21), (0, 17, 24, 13)] :: gU) B.pre
  have hts : ∀ w ∈ gU, w.before _ s = true := fun w h => hts0 w (List.mem_cons_of_mem _ h)
  have hown : s.vm.findClass RL = some m.cls := findClass_of_methodNamed B.named
  have hlocks := B.notSynchronized
  have htab := vx_table (x := yL_watch) B (hts0 _ List.mem_cons_self)
  subst hsz
  have hD := hD0
  generalize hAe : va_A [] s.heap.size = A at hZ ⊢
  have hA : ∀ q : Nat, s.heap.size ≤ q → A q := fun q h => by rw [← hAe]; exact Or.inr h
  have hS : va_S A s.heap s.heap [] := va_S.rf
  have hP : va_P (dC, dI) vwCl [(h0, .inr (11, oX w sg ro tr gX)), (w, .inr (10, oW kd gW 0 0))] s.heap := hP
  have hl := lv_entry ([.ref h0, .int a0, .int a1, .ref ou]) (n := 5) (Nat.le_of_ble_eq_true rfl)
  rw [lg_entry_eq]
  generalize (lg_sl ([.ref h0, .int a0, .int a1, .ref ou]) ++ List.replicate (5 - (lg_sl ([.ref h0, .int a0, .int a1, .ref ou])).length) Slot.unset).toArray = ls at hl ⊢
  have hl : lv_has ls 5 [(0, .ref h0), (1, .int a0), (2, .int a1), (3, .ref ou)] := hl
  refine lv_aload_n hx hb dL_watch_0 rfl (lv_at hl 3 rfl) ?_
  refine lv_iconst (v := 0) hx hb dL_watch_1 (by decide) ?_
  refine lv_aload_n hx hb dL_watch_2 rfl (lv_at hl 0 rfl) ?_
  refine lv_iload_n hx hb dL_watch_3 rfl (lv_at hl 1 rfl) ?_
  refine lv_iload_n hx hb dL_watch_4 rfl (lv_at hl 2 rfl) ?_
  have hPc := hP.sub (ws' := [(h0, .inr (11, oX w sg ro tr gX)), (w, .inr (10, oW kd gW 0 0))]) [0, 1] rfl
  have hDc := hD.sub (ws' := [(h0, .inr (11, oX w sg ro tr gX)), (w, .inr (10, oW kd gW 0 0))]) [0, 1] (by decide) rfl
  have hKc := hK.sub (tys' := []) [] rfl
  have hFc := roF hS hA
  refine vx_calli (vx_runV (As := [.int a0, .int a1]) (rest := [.int 0, .ref ou]) ⟨hx, hb, hml, hown, hts⟩ (c_X11_watch l dC dI s.heap.size hfl h0 w sg ro tr gX kd gW a0 a1) (cwV 2 hts (gV u_822 u_823 u_824 u_1 u_825) rfl rfl rfl (by decide +kernel) ⟨Nat.le_of_ble_eq_true rfl, Nat.le_of_ble_eq_true rfl⟩) ⟨gPZ_blind, va_recv hKc hPc (ci := 11) (q0 := 0) rfl rfl, gPZ_call hPc hKc hDc hE hZ hS hFc⟩ rfl rfl hl.1 rfl (lv_room (Nat.le_of_ble_eq_true rfl)) dL_watch_5 ⟨(Nat.le_of_ble_eq_true rfl), (Nat.le_of_ble_eq_true rfl)⟩) hS (fun q _ h => hFc q h) hFc (fun q _ h => hFc q h) (fun E9 ce9 q105 u9 t9 H103 locs ht hvm hpx hBX hz1 hk1 hS hce hcv hcl => ?_) (fun r104 u9 t9 H103 locs ht hvm hw hB hz1 hk1 hS => hw.elim)
  subst hBX
  refine vx_widen (k := 1) (n := 6) (Nat.le_of_ble_eq_true rfl) (Nat.le_of_ble_eq_true rfl) ?_
  refine vx_catch (pc := 5) hown [] ⟨0, 17, 20, 21⟩ [⟨0, 17, 24, 13⟩] (by rw [htab]; rfl) (fun z hz => nomatch hz) (by decide) (by decide) (hts _ u_606) (va_Nw.use rfl (hE.1 _ n_8)) hce hcv hcl ?_
  have hP := roP hP hk1
  refine lv_astore (lv' := [(4, .ref q105), (0, .ref h0), (1, .int a0), (2, .int a1), (3, .ref ou)]) hx hb dL_watch_20 hl (by decide) rfl (fun ls hl => ?_)
  refine lv_iconst (v := 1) hx hb dL_watch_22 (by decide) ?_
  refine W.widen (k := 1) (n := 6) (Nat.le_of_ble_eq_true rfl) (Nat.le_of_ble_eq_true rfl) ?_
  exact W.iret (v := 1) hx hb hr (fun t ht hW => ⟨⟨1, (), rfl, rfl, trivial⟩, hS.F ht⟩) hS.2.2 dL_watch_23
set_option maxHeartbeats 4000000 in
set_option maxRecDepth 100000 in
theorem c_L_pool (l : Launch) (dC : Nat → ClassId) (dI : Nat → Nat → Nat) (sz : Nat) (hfl : l.stackTraces = false) (h0 : Nat) (ou : Nat) (w : Nat) (sg : Nat) (ro : Nat) (tr : Nat) (gX : Nat → Nat) (kd : Nat) (gW : Nat → Nat) (a0 : Int32) (a1 : Int32) (a2 : Int32) : Met l yL_pool (Cond.codeWith yL_pool cL_pool 6 (some .int) [(0, 12, 15, 21), (0, 12, 19, 13)] :: gU) ({ frames := 8, cells := 1, slots := 6, locals := 126 }) (gPZ dC dI sz [(h0, .inr (11, oX w sg ro tr gX)), (w, .inr (10, oW kd gW 0 0))] [] (va_A [] sz) [.ref h0, .int a0, .int a1, .int a2, .ref ou]) (va_Qi (fun (r : Int32) (_ : Unit) => r = 1) (fun _ _ => True) (va_A [] sz)) 1 6 (va_A [] sz) := by
  refine va_MetW (cc := cL_pool) (maxL := 6) (ret := (some .int)) (by decide) rfl ?_
  intro p e s m args below meth c s₁ B hml hv
  obtain ⟨rfl, hsz, hP, hK, hD0, hE, hZ⟩ := hv
  have hx := B.exec
  have hb := B.bytes
  have hr := B.returns
  have hts0 := atoms_spec (ws := Cond.codeWith yL_pool cL_pool 6 (some .int) [(0, 12, 15, 21), (0, 12, 19, 13)] :: gU) B.pre
  have hts : ∀ w ∈ gU, w.before _ s = true := fun w h => hts0 w (List.mem_cons_of_mem _ h)
  have hown : s.vm.findClass RL = some m.cls := findClass_of_methodNamed B.named
  have hlocks := B.notSynchronized
  have htab := vx_table (x := yL_pool) B (hts0 _ List.mem_cons_self)
  subst hsz
  have hD := hD0
  generalize hAe : va_A [] s.heap.size = A at hZ ⊢
  have hA : ∀ q : Nat, s.heap.size ≤ q → A q := fun q h => by rw [← hAe]; exact Or.inr h
  have hS : va_S A s.heap s.heap [] := va_S.rf
  have hP : va_P (dC, dI) vwCl [(h0, .inr (11, oX w sg ro tr gX)), (w, .inr (10, oW kd gW 0 0))] s.heap := hP
  have hl := lv_entry ([.ref h0, .int a0, .int a1, .int a2, .ref ou]) (n := 6) (Nat.le_of_ble_eq_true rfl)
  rw [lg_entry_eq]
  generalize (lg_sl ([.ref h0, .int a0, .int a1, .int a2, .ref ou]) ++ List.replicate (6 - (lg_sl ([.ref h0, .int a0, .int a1, .int a2, .ref ou])).length) Slot.unset).toArray = ls at hl ⊢
  have hl : lv_has ls 6 [(0, .ref h0), (1, .int a0), (2, .int a1), (3, .int a2), (4, .ref ou)] := hl
  refine lv_aload hx hb dL_pool_0 (lv_at hl 4 rfl) ?_
  refine lv_iconst (v := 0) hx hb dL_pool_2 (by decide) ?_
  refine lv_aload_n hx hb dL_pool_3 rfl (lv_at hl 0 rfl) ?_
  refine lv_iload_n hx hb dL_pool_4 rfl (lv_at hl 1 rfl) ?_
  refine lv_iload_n hx hb dL_pool_5 rfl (lv_at hl 2 rfl) ?_
  refine lv_iload_n hx hb dL_pool_6 rfl (lv_at hl 3 rfl) ?_
  have hPc := hP.sub (ws' := [(h0, .inr (11, oX w sg ro tr gX)), (w, .inr (10, oW kd gW 0 0))]) [0, 1] rfl
  have hDc := hD.sub (ws' := [(h0, .inr (11, oX w sg ro tr gX)), (w, .inr (10, oW kd gW 0 0))]) [0, 1] (by decide) rfl
  have hKc := hK.sub (tys' := []) [] rfl
  have hFc := roF hS hA
  refine vx_calli (vx_runV (As := [.int a0, .int a1, .int a2]) (rest := [.int 0, .ref ou]) ⟨hx, hb, hml, hown, hts⟩ (c_X11_pool l dC dI s.heap.size hfl h0 w sg ro tr gX kd gW a0 a1 a2) (cwV 3 hts (gV u_833 u_834 u_835 u_1 u_836) rfl rfl rfl (by decide +kernel) ⟨Nat.le_of_ble_eq_true rfl, Nat.le_of_ble_eq_true rfl⟩) ⟨gPZ_blind, va_recv hKc hPc (ci := 11) (q0 := 0) rfl rfl, gPZ_call hPc hKc hDc hE hZ hS hFc⟩ rfl rfl hl.1 rfl (lv_room (Nat.le_of_ble_eq_true rfl)) dL_pool_7 ⟨(Nat.le_of_ble_eq_true rfl), (Nat.le_of_ble_eq_true rfl)⟩) hS (fun q _ h => hFc q h) hFc (fun q _ h => hFc q h) (fun E9 ce9 q108 u9 t9 H106 locs ht hvm hpx hBX hz1 hk1 hS hce hcv hcl => ?_) (fun r107 u9 t9 H106 locs ht hvm hw hB hz1 hk1 hS => hw.elim)
  subst hBX
  refine vx_widen (k := 1) (n := 6) (Nat.le_of_ble_eq_true rfl) (Nat.le_of_ble_eq_true rfl) ?_
  refine vx_catch (pc := 7) hown [] ⟨0, 12, 15, 21⟩ [⟨0, 12, 19, 13⟩] (by rw [htab]; rfl) (fun z hz => nomatch hz) (by decide) (by decide) (hts _ u_606) (va_Nw.use rfl (hE.1 _ n_8)) hce hcv hcl ?_
  have hP := roP hP hk1
  refine lv_astore (lv' := [(5, .ref q108), (0, .ref h0), (1, .int a0), (2, .int a1), (3, .int a2), (4, .ref ou)]) hx hb dL_pool_15 hl (by decide) rfl (fun ls hl => ?_)
  refine lv_iconst (v := 1) hx hb dL_pool_17 (by decide) ?_
  refine W.widen (k := 1) (n := 6) (Nat.le_of_ble_eq_true rfl) (Nat.le_of_ble_eq_true rfl) ?_
  exact W.iret (v := 1) hx hb hr (fun t ht hW => ⟨⟨1, (), rfl, rfl, trivial⟩, hS.F ht⟩) hS.2.2 dL_pool_18
set_option maxHeartbeats 4000000 in
set_option maxRecDepth 100000 in
theorem c_L_send (l : Launch) (dC : Nat → ClassId) (dI : Nat → Nat → Nat) (sz : Nat) (hfl : l.stackTraces = false) (h0 : Nat) (ou : Nat) (w : Nat) (sg : Nat) (ro : Nat) (tr : Nat) (gX : Nat → Nat) (kd : Nat) (gW : Nat → Nat) (a0 : Int32) (a1 : Int32) (a2 : Int32) : Met l yL_send (Cond.codeWith yL_send cL_send 6 (some .int) [(0, 12, 15, 21), (0, 12, 19, 13), (0, 12, 23, 15)] :: gU) ({ frames := 8, cells := 1, slots := 6, locals := 127 }) (gPZ dC dI sz [(h0, .inr (11, oX w sg ro tr gX)), (w, .inr (10, oW kd gW 0 0))] [] (va_A [] sz) [.ref h0, .int a0, .int a1, .int a2, .ref ou]) (va_Qi (fun (r : Int32) (_ : Unit) => r = 1) (fun _ _ => True) (va_A [] sz)) 1 6 (va_A [] sz) := by
  refine va_MetW (cc := cL_send) (maxL := 6) (ret := (some .int)) (by decide) rfl ?_
  intro p e s m args below meth c s₁ B hml hv
  obtain ⟨rfl, hsz, hP, hK, hD0, hE, hZ⟩ := hv
  have hx := B.exec
  have hb := B.bytes
  have hr := B.returns
  have hts0 := atoms_spec (ws := Cond.codeWith yL_send cL_send 6 (some .int) [(0, 12, 15, 21), (0, 12, 19, 13), (0, 12, 23, 15)] :: gU) B.pre
  have hts : ∀ w ∈ gU, w.before _ s = true := fun w h => hts0 w (List.mem_cons_of_mem _ h)
  have hown : s.vm.findClass RL = some m.cls := findClass_of_methodNamed B.named
  have hlocks := B.notSynchronized
  have htab := vx_table (x := yL_send) B (hts0 _ List.mem_cons_self)
  subst hsz
  have hD := hD0
  generalize hAe : va_A [] s.heap.size = A at hZ ⊢
  have hA : ∀ q : Nat, s.heap.size ≤ q → A q := fun q h => by rw [← hAe]; exact Or.inr h
  have hS : va_S A s.heap s.heap [] := va_S.rf
  have hP : va_P (dC, dI) vwCl [(h0, .inr (11, oX w sg ro tr gX)), (w, .inr (10, oW kd gW 0 0))] s.heap := hP
  have hl := lv_entry ([.ref h0, .int a0, .int a1, .int a2, .ref ou]) (n := 6) (Nat.le_of_ble_eq_true rfl)
  rw [lg_entry_eq]
  generalize (lg_sl ([.ref h0, .int a0, .int a1, .int a2, .ref ou]) ++ List.replicate (6 - (lg_sl ([.ref h0, .int a0, .int a1, .int a2, .ref ou])).length) Slot.unset).toArray = ls at hl ⊢
  have hl : lv_has ls 6 [(0, .ref h0), (1, .int a0), (2, .int a1), (3, .int a2), (4, .ref ou)] := hl
  refine lv_aload hx hb dL_send_0 (lv_at hl 4 rfl) ?_
  refine lv_iconst (v := 0) hx hb dL_send_2 (by decide) ?_
  refine lv_aload_n hx hb dL_send_3 rfl (lv_at hl 0 rfl) ?_
  refine lv_iload_n hx hb dL_send_4 rfl (lv_at hl 1 rfl) ?_
  refine lv_iload_n hx hb dL_send_5 rfl (lv_at hl 2 rfl) ?_
  refine lv_iload_n hx hb dL_send_6 rfl (lv_at hl 3 rfl) ?_
  have hPc := hP.sub (ws' := [(h0, .inr (11, oX w sg ro tr gX)), (w, .inr (10, oW kd gW 0 0))]) [0, 1] rfl
  have hDc := hD.sub (ws' := [(h0, .inr (11, oX w sg ro tr gX)), (w, .inr (10, oW kd gW 0 0))]) [0, 1] (by decide) rfl
  have hKc := hK.sub (tys' := []) [] rfl
  have hFc := roF hS hA
  refine vx_calli (vx_runV (As := [.int a0, .int a1, .int a2]) (rest := [.int 0, .ref ou]) ⟨hx, hb, hml, hown, hts⟩ (c_X11_send l dC dI s.heap.size hfl h0 w sg ro tr gX kd gW a0 a1 a2) (cwV 3 hts (gV u_846 u_847 u_848 u_1 u_849) rfl rfl rfl (by decide +kernel) ⟨Nat.le_of_ble_eq_true rfl, Nat.le_of_ble_eq_true rfl⟩) ⟨gPZ_blind, va_recv hKc hPc (ci := 11) (q0 := 0) rfl rfl, gPZ_call hPc hKc hDc hE hZ hS hFc⟩ rfl rfl hl.1 rfl (lv_room (Nat.le_of_ble_eq_true rfl)) dL_send_7 ⟨(Nat.le_of_ble_eq_true rfl), (Nat.le_of_ble_eq_true rfl)⟩) hS (fun q _ h => hFc q h) hFc (fun q _ h => hFc q h) (fun E9 ce9 q111 u9 t9 H109 locs ht hvm hpx hBX hz1 hk1 hS hce hcv hcl => ?_) (fun r110 u9 t9 H109 locs ht hvm hw hB hz1 hk1 hS => hw.elim)
  subst hBX
  refine vx_widen (k := 1) (n := 6) (Nat.le_of_ble_eq_true rfl) (Nat.le_of_ble_eq_true rfl) ?_
  refine vx_catch (pc := 7) hown [] ⟨0, 12, 15, 21⟩ [⟨0, 12, 19, 13⟩, ⟨0, 12, 23, 15⟩] (by rw [htab]; rfl) (fun z hz => nomatch hz) (by decide) (by decide) (hts _ u_606) (va_Nw.use rfl (hE.1 _ n_8)) hce hcv hcl ?_
  have hP := roP hP hk1
  refine lv_astore (lv' := [(5, .ref q111), (0, .ref h0), (1, .int a0), (2, .int a1), (3, .int a2), (4, .ref ou)]) hx hb dL_send_15 hl (by decide) rfl (fun ls hl => ?_)
  refine lv_iconst (v := 1) hx hb dL_send_17 (by decide) ?_
  refine W.widen (k := 1) (n := 6) (Nat.le_of_ble_eq_true rfl) (Nat.le_of_ble_eq_true rfl) ?_
  exact W.iret (v := 1) hx hb hr (fun t ht hW => ⟨⟨1, (), rfl, rfl, trivial⟩, hS.F ht⟩) hS.2.2 dL_send_18
set_option maxHeartbeats 4000000 in
set_option maxRecDepth 100000 in
theorem c_L_fate (l : Launch) (dC : Nat → ClassId) (dI : Nat → Nat → Nat) (sz : Nat) (hfl : l.stackTraces = false) (h0 : Nat) (ou : Nat) (w : Nat) (sg : Nat) (ro : Nat) (tr : Nat) (gX : Nat → Nat) (gT : Nat → Nat) (a0 : Int32) : Met l yL_fate (Cond.codeWith yL_fate cL_fate 4 (some .int) [(0, 9, 12, 21)] :: gU) ({ frames := 8, cells := 1, slots := 6, locals := 124 }) (gPZ dC dI sz [(h0, .inr (11, oX w sg ro tr gX)), (tr, .inr (9, oT w sg ro gT 0 0 0 0))] [] (va_A [] sz) [.ref h0, .int a0, .ref ou]) (va_Qi (fun (r : Int32) (_ : Unit) => r = 1) (fun _ _ => True) (va_A [] sz)) 1 6 (va_A [] sz) := by
  refine va_MetW (cc := cL_fate) (maxL := 4) (ret := (some .int)) (by decide) rfl ?_
  intro p e s m args below meth c s₁ B hml hv
  obtain ⟨rfl, hsz, hP, hK, hD0, hE, hZ⟩ := hv
  have hx := B.exec
  have hb := B.bytes
  have hr := B.returns
  have hts0 := atoms_spec (ws := Cond.codeWith yL_fate cL_fate 4 (some .int) [(0, 9, 12, 21)] :: gU) B.pre
  have hts : ∀ w ∈ gU, w.before _ s = true := fun w h => hts0 w (List.mem_cons_of_mem _ h)
  have hown : s.vm.findClass RL = some m.cls := findClass_of_methodNamed B.named
  have hlocks := B.notSynchronized
  have htab := vx_table (x := yL_fate) B (hts0 _ List.mem_cons_self)
  subst hsz
  have hD := hD0
  generalize hAe : va_A [] s.heap.size = A at hZ ⊢
  have hA : ∀ q : Nat, s.heap.size ≤ q → A q := fun q h => by rw [← hAe]; exact Or.inr h
  have hS : va_S A s.heap s.heap [] := va_S.rf
  have hP : va_P (dC, dI) vwCl [(h0, .inr (11, oX w sg ro tr gX)), (tr, .inr (9, oT w sg ro gT 0 0 0 0))] s.heap := hP
  have hl := lv_entry ([.ref h0, .int a0, .ref ou]) (n := 4) (Nat.le_of_ble_eq_true rfl)
  rw [lg_entry_eq]
  generalize (lg_sl ([.ref h0, .int a0, .ref ou]) ++ List.replicate (4 - (lg_sl ([.ref h0, .int a0, .ref ou])).length) Slot.unset).toArray = ls at hl ⊢
  have hl : lv_has ls 4 [(0, .ref h0), (1, .int a0), (2, .ref ou)] := hl
  refine lv_aload_n hx hb dL_fate_0 rfl (lv_at hl 2 rfl) ?_
  refine lv_iconst (v := 0) hx hb dL_fate_1 (by decide) ?_
  refine lv_aload_n hx hb dL_fate_2 rfl (lv_at hl 0 rfl) ?_
  refine lv_iload_n hx hb dL_fate_3 rfl (lv_at hl 1 rfl) ?_
  have hPc := hP.sub (ws' := [(h0, .inr (11, oX w sg ro tr gX)), (tr, .inr (9, oT w sg ro gT 0 0 0 0))]) [0, 1] rfl
  have hDc := hD.sub (ws' := [(h0, .inr (11, oX w sg ro tr gX)), (tr, .inr (9, oT w sg ro gT 0 0 0 0))]) [0, 1] (by decide) rfl
  have hKc := hK.sub (tys' := []) [] rfl
  have hFc := roF hS hA
  refine vx_calli (vx_runV (As := [.int a0]) (rest := [.int 0, .ref ou]) ⟨hx, hb, hml, hown, hts⟩ (c_X11_fate l dC dI s.heap.size hfl h0 w sg ro tr gX gT a0) (cwV 1 hts (gV u_1048 u_1049 u_1050 u_1 u_1051) rfl rfl rfl (by decide +kernel) ⟨Nat.le_of_ble_eq_true rfl, Nat.le_of_ble_eq_true rfl⟩) ⟨gPZ_blind, va_recv hKc hPc (ci := 11) (q0 := 0) rfl rfl, gPZ_call hPc hKc hDc hE hZ hS hFc⟩ rfl rfl hl.1 rfl (lv_room (Nat.le_of_ble_eq_true rfl)) dL_fate_4 ⟨(Nat.le_of_ble_eq_true rfl), (Nat.le_of_ble_eq_true rfl)⟩) hS (fun q _ h => hFc q h) hFc (fun q _ h => hFc q h) (fun E9 ce9 q114 u9 t9 H112 locs ht hvm hpx hBX hz1 hk1 hS hce hcv hcl => ?_) (fun r113 u9 t9 H112 locs ht hvm hw hB hz1 hk1 hS => hw.elim)
  subst hBX
  refine vx_widen (k := 1) (n := 6) (Nat.le_of_ble_eq_true rfl) (Nat.le_of_ble_eq_true rfl) ?_
  refine vx_catch (pc := 4) hown [] ⟨0, 9, 12, 21⟩ [] (by rw [htab]; rfl) (fun z hz => nomatch hz) (by decide) (by decide) (hts _ u_606) (va_Nw.use rfl (hE.1 _ n_8)) hce hcv hcl ?_
  have hP := roP hP hk1
  refine lv_astore_n (lv' := [(3, .ref q114), (0, .ref h0), (1, .int a0), (2, .ref ou)]) hx hb dL_fate_12 rfl hl (by decide) rfl (fun ls hl => ?_)
  refine lv_iconst (v := 1) hx hb dL_fate_13 (by decide) ?_
  refine W.widen (k := 1) (n := 6) (Nat.le_of_ble_eq_true rfl) (Nat.le_of_ble_eq_true rfl) ?_
  exact W.iret (v := 1) hx hb hr (fun t ht hW => ⟨⟨1, (), rfl, rfl, trivial⟩, hS.F ht⟩) hS.2.2 dL_fate_14
set_option maxHeartbeats 4000000 in
set_option maxRecDepth 100000 in
theorem c_L_where (l : Launch) (dC : Nat → ClassId) (dI : Nat → Nat → Nat) (sz : Nat) (hfl : l.stackTraces = false) (h0 : Nat) (ou : Nat) (w : Nat) (sg : Nat) (ro : Nat) (tr : Nat) (gX : Nat → Nat) (gT : Nat → Nat) (a0 : Int32) : Met l yL_where (Cond.codeWith yL_where cL_where 4 (some .int) [(0, 9, 12, 21)] :: gU) ({ frames := 8, cells := 1, slots := 6, locals := 124 }) (gPZ dC dI sz [(h0, .inr (11, oX w sg ro tr gX)), (tr, .inr (9, oT w sg ro gT 0 0 0 0))] [] (va_A [] sz) [.ref h0, .int a0, .ref ou]) (va_Qi (fun (r : Int32) (_ : Unit) => r = 1) (fun _ _ => True) (va_A [] sz)) 1 6 (va_A [] sz) := by
  refine va_MetW (cc := cL_where) (maxL := 4) (ret := (some .int)) (by decide) rfl ?_
  intro p e s m args below meth c s₁ B hml hv
  obtain ⟨rfl, hsz, hP, hK, hD0, hE, hZ⟩ := hv
  have hx := B.exec
  have hb := B.bytes
  have hr := B.returns
  have hts0 := atoms_spec (ws := Cond.codeWith yL_where cL_where 4 (some .int) [(0, 9, 12, 21)] :: gU) B.pre
  have hts : ∀ w ∈ gU, w.before _ s = true := fun w h => hts0 w (List.mem_cons_of_mem _ h)
  have hown : s.vm.findClass RL = some m.cls := findClass_of_methodNamed B.named
  have hlocks := B.notSynchronized
  have htab := vx_table (x := yL_where) B (hts0 _ List.mem_cons_self)
  subst hsz
  have hD := hD0
  generalize hAe : va_A [] s.heap.size = A at hZ ⊢
  have hA : ∀ q : Nat, s.heap.size ≤ q → A q := fun q h => by rw [← hAe]; exact Or.inr h
  have hS : va_S A s.heap s.heap [] := va_S.rf
  have hP : va_P (dC, dI) vwCl [(h0, .inr (11, oX w sg ro tr gX)), (tr, .inr (9, oT w sg ro gT 0 0 0 0))] s.heap := hP
  have hl := lv_entry ([.ref h0, .int a0, .ref ou]) (n := 4) (Nat.le_of_ble_eq_true rfl)
  rw [lg_entry_eq]
  generalize (lg_sl ([.ref h0, .int a0, .ref ou]) ++ List.replicate (4 - (lg_sl ([.ref h0, .int a0, .ref ou])).length) Slot.unset).toArray = ls at hl ⊢
  have hl : lv_has ls 4 [(0, .ref h0), (1, .int a0), (2, .ref ou)] := hl
  refine lv_aload_n hx hb dL_where_0 rfl (lv_at hl 2 rfl) ?_
  refine lv_iconst (v := 0) hx hb dL_where_1 (by decide) ?_
  refine lv_aload_n hx hb dL_where_2 rfl (lv_at hl 0 rfl) ?_
  refine lv_iload_n hx hb dL_where_3 rfl (lv_at hl 1 rfl) ?_
  have hPc := hP.sub (ws' := [(h0, .inr (11, oX w sg ro tr gX)), (tr, .inr (9, oT w sg ro gT 0 0 0 0))]) [0, 1] rfl
  have hDc := hD.sub (ws' := [(h0, .inr (11, oX w sg ro tr gX)), (tr, .inr (9, oT w sg ro gT 0 0 0 0))]) [0, 1] (by decide) rfl
  have hKc := hK.sub (tys' := []) [] rfl
  have hFc := roF hS hA
  refine vx_calli (vx_runV (As := [.int a0]) (rest := [.int 0, .ref ou]) ⟨hx, hb, hml, hown, hts⟩ (c_X11_where l dC dI s.heap.size hfl h0 w sg ro tr gX gT a0) (cwV 1 hts (gV u_1060 u_1061 u_1062 u_1 u_1063) rfl rfl rfl (by decide +kernel) ⟨Nat.le_of_ble_eq_true rfl, Nat.le_of_ble_eq_true rfl⟩) ⟨gPZ_blind, va_recv hKc hPc (ci := 11) (q0 := 0) rfl rfl, gPZ_call hPc hKc hDc hE hZ hS hFc⟩ rfl rfl hl.1 rfl (lv_room (Nat.le_of_ble_eq_true rfl)) dL_where_4 ⟨(Nat.le_of_ble_eq_true rfl), (Nat.le_of_ble_eq_true rfl)⟩) hS (fun q _ h => hFc q h) hFc (fun q _ h => hFc q h) (fun E9 ce9 q117 u9 t9 H115 locs ht hvm hpx hBX hz1 hk1 hS hce hcv hcl => ?_) (fun r116 u9 t9 H115 locs ht hvm hw hB hz1 hk1 hS => hw.elim)
  subst hBX
  refine vx_widen (k := 1) (n := 6) (Nat.le_of_ble_eq_true rfl) (Nat.le_of_ble_eq_true rfl) ?_
  refine vx_catch (pc := 4) hown [] ⟨0, 9, 12, 21⟩ [] (by rw [htab]; rfl) (fun z hz => nomatch hz) (by decide) (by decide) (hts _ u_606) (va_Nw.use rfl (hE.1 _ n_8)) hce hcv hcl ?_
  have hP := roP hP hk1
  refine lv_astore_n (lv' := [(3, .ref q117), (0, .ref h0), (1, .int a0), (2, .ref ou)]) hx hb dL_where_12 rfl hl (by decide) rfl (fun ls hl => ?_)
  refine lv_iconst (v := 1) hx hb dL_where_13 (by decide) ?_
  refine W.widen (k := 1) (n := 6) (Nat.le_of_ble_eq_true rfl) (Nat.le_of_ble_eq_true rfl) ?_
  exact W.iret (v := 1) hx hb hr (fun t ht hW => ⟨⟨1, (), rfl, rfl, trivial⟩, hS.F ht⟩) hS.2.2 dL_where_14
set_option maxHeartbeats 4000000 in
set_option maxRecDepth 100000 in
theorem c_L_source (l : Launch) (dC : Nat → ClassId) (dI : Nat → Nat → Nat) (sz : Nat) (hfl : l.stackTraces = false) (h0 : Nat) (ou : Nat) (w : Nat) (sg : Nat) (ro : Nat) (tr : Nat) (gX : Nat → Nat) (gT : Nat → Nat) (a0 : Int32) : Met l yL_source (Cond.codeWith yL_source cL_source 4 (some .int) [(0, 9, 12, 21)] :: gU) ({ frames := 8, cells := 1, slots := 6, locals := 124 }) (gPZ dC dI sz [(h0, .inr (11, oX w sg ro tr gX)), (tr, .inr (9, oT w sg ro gT 0 0 0 0))] [] (va_A [] sz) [.ref h0, .int a0, .ref ou]) (va_Qi (fun (r : Int32) (_ : Unit) => r = 1) (fun _ _ => True) (va_A [] sz)) 1 6 (va_A [] sz) := by
  refine va_MetW (cc := cL_source) (maxL := 4) (ret := (some .int)) (by decide) rfl ?_
  intro p e s m args below meth c s₁ B hml hv
  obtain ⟨rfl, hsz, hP, hK, hD0, hE, hZ⟩ := hv
  have hx := B.exec
  have hb := B.bytes
  have hr := B.returns
  have hts0 := atoms_spec (ws := Cond.codeWith yL_source cL_source 4 (some .int) [(0, 9, 12, 21)] :: gU) B.pre
  have hts : ∀ w ∈ gU, w.before _ s = true := fun w h => hts0 w (List.mem_cons_of_mem _ h)
  have hown : s.vm.findClass RL = some m.cls := findClass_of_methodNamed B.named
  have hlocks := B.notSynchronized
  have htab := vx_table (x := yL_source) B (hts0 _ List.mem_cons_self)
  subst hsz
  have hD := hD0
  generalize hAe : va_A [] s.heap.size = A at hZ ⊢
  have hA : ∀ q : Nat, s.heap.size ≤ q → A q := fun q h => by rw [← hAe]; exact Or.inr h
  have hS : va_S A s.heap s.heap [] := va_S.rf
  have hP : va_P (dC, dI) vwCl [(h0, .inr (11, oX w sg ro tr gX)), (tr, .inr (9, oT w sg ro gT 0 0 0 0))] s.heap := hP
  have hl := lv_entry ([.ref h0, .int a0, .ref ou]) (n := 4) (Nat.le_of_ble_eq_true rfl)
  rw [lg_entry_eq]
  generalize (lg_sl ([.ref h0, .int a0, .ref ou]) ++ List.replicate (4 - (lg_sl ([.ref h0, .int a0, .ref ou])).length) Slot.unset).toArray = ls at hl ⊢
  have hl : lv_has ls 4 [(0, .ref h0), (1, .int a0), (2, .ref ou)] := hl
  refine lv_aload_n hx hb dL_source_0 rfl (lv_at hl 2 rfl) ?_
  refine lv_iconst (v := 0) hx hb dL_source_1 (by decide) ?_
  refine lv_aload_n hx hb dL_source_2 rfl (lv_at hl 0 rfl) ?_
  refine lv_iload_n hx hb dL_source_3 rfl (lv_at hl 1 rfl) ?_
  have hPc := hP.sub (ws' := [(h0, .inr (11, oX w sg ro tr gX)), (tr, .inr (9, oT w sg ro gT 0 0 0 0))]) [0, 1] rfl
  have hDc := hD.sub (ws' := [(h0, .inr (11, oX w sg ro tr gX)), (tr, .inr (9, oT w sg ro gT 0 0 0 0))]) [0, 1] (by decide) rfl
  have hKc := hK.sub (tys' := []) [] rfl
  have hFc := roF hS hA
  refine vx_calli (vx_runV (As := [.int a0]) (rest := [.int 0, .ref ou]) ⟨hx, hb, hml, hown, hts⟩ (c_X11_source l dC dI s.heap.size hfl h0 w sg ro tr gX gT a0) (cwV 1 hts (gV u_1067 u_1068 u_1069 u_1 u_1070) rfl rfl rfl (by decide +kernel) ⟨Nat.le_of_ble_eq_true rfl, Nat.le_of_ble_eq_true rfl⟩) ⟨gPZ_blind, va_recv hKc hPc (ci := 11) (q0 := 0) rfl rfl, gPZ_call hPc hKc hDc hE hZ hS hFc⟩ rfl rfl hl.1 rfl (lv_room (Nat.le_of_ble_eq_true rfl)) dL_source_4 ⟨(Nat.le_of_ble_eq_true rfl), (Nat.le_of_ble_eq_true rfl)⟩) hS (fun q _ h => hFc q h) hFc (fun q _ h => hFc q h) (fun E9 ce9 q120 u9 t9 H118 locs ht hvm hpx hBX hz1 hk1 hS hce hcv hcl => ?_) (fun r119 u9 t9 H118 locs ht hvm hw hB hz1 hk1 hS => hw.elim)
  subst hBX
  refine vx_widen (k := 1) (n := 6) (Nat.le_of_ble_eq_true rfl) (Nat.le_of_ble_eq_true rfl) ?_
  refine vx_catch (pc := 4) hown [] ⟨0, 9, 12, 21⟩ [] (by rw [htab]; rfl) (fun z hz => nomatch hz) (by decide) (by decide) (hts _ u_606) (va_Nw.use rfl (hE.1 _ n_8)) hce hcv hcl ?_
  have hP := roP hP hk1
  refine lv_astore_n (lv' := [(3, .ref q120), (0, .ref h0), (1, .int a0), (2, .ref ou)]) hx hb dL_source_12 rfl hl (by decide) rfl (fun ls hl => ?_)
  refine lv_iconst (v := 1) hx hb dL_source_13 (by decide) ?_
  refine W.widen (k := 1) (n := 6) (Nat.le_of_ble_eq_true rfl) (Nat.le_of_ble_eq_true rfl) ?_
  exact W.iret (v := 1) hx hb hr (fun t ht hW => ⟨⟨1, (), rfl, rfl, trivial⟩, hS.F ht⟩) hS.2.2 dL_source_14
set_option maxHeartbeats 4000000 in
set_option maxRecDepth 100000 in
theorem c_L_noted (l : Launch) (dC : Nat → ClassId) (dI : Nat → Nat → Nat) (sz : Nat) (hfl : l.stackTraces = false) (h0 : Nat) (ou : Nat) (w : Nat) (sg : Nat) (ro : Nat) (tr : Nat) (gX : Nat → Nat) (kd : Nat) (gW : Nat → Nat) (a0 : Int32) (a1 : Int32) : Met l yL_noted (Cond.codeWith yL_noted cL_noted 5 (some .int) [(0, 10, 13, 21), (0, 10, 17, 13)] :: gU) ({ frames := 8, cells := 1, slots := 6, locals := 125 }) (gPZ dC dI sz [(h0, .inr (11, oX w sg ro tr gX)), (w, .inr (10, oW kd gW 0 0))] [] (va_A [] sz) [.ref h0, .int a0, .int a1, .ref ou]) (va_Qi (fun (r : Int32) (_ : Unit) => r = 1) (fun _ _ => True) (va_A [] sz)) 1 6 (va_A [] sz) := by
  refine va_MetW (cc := cL_noted) (maxL := 5) (ret := (some .int)) (by decide) rfl ?_
  intro p e s m args below meth c s₁ B hml hv
  obtain ⟨rfl, hsz, hP, hK, hD0, hE, hZ⟩ := hv
  have hx := B.exec
  have hb := B.bytes
  have hr := B.returns
  have hts0 := atoms_spec (ws := Cond.codeWith yL_noted cL_noted 5 (some .int) [(0, 10, 13, 21), (0, 10, 17, 13)] :: gU) B.pre
  have hts : ∀ w ∈ gU, w.before _ s = true := fun w h => hts0 w (List.mem_cons_of_mem _ h)
  have hown : s.vm.findClass RL = some m.cls := findClass_of_methodNamed B.named
  have hlocks := B.notSynchronized
  have htab := vx_table (x := yL_noted) B (hts0 _ List.mem_cons_self)
  subst hsz
  have hD := hD0
  generalize hAe : va_A [] s.heap.size = A at hZ ⊢
  have hA : ∀ q : Nat, s.heap.size ≤ q → A q := fun q h => by rw [← hAe]; exact Or.inr h
  have hS : va_S A s.heap s.heap [] := va_S.rf
  have hP : va_P (dC, dI) vwCl [(h0, .inr (11, oX w sg ro tr gX)), (w, .inr (10, oW kd gW 0 0))] s.heap := hP
  have hl := lv_entry ([.ref h0, .int a0, .int a1, .ref ou]) (n := 5) (Nat.le_of_ble_eq_true rfl)
  rw [lg_entry_eq]
  generalize (lg_sl ([.ref h0, .int a0, .int a1, .ref ou]) ++ List.replicate (5 - (lg_sl ([.ref h0, .int a0, .int a1, .ref ou])).length) Slot.unset).toArray = ls at hl ⊢
  have hl : lv_has ls 5 [(0, .ref h0), (1, .int a0), (2, .int a1), (3, .ref ou)] := hl
  refine lv_aload_n hx hb dL_noted_0 rfl (lv_at hl 3 rfl) ?_
  refine lv_iconst (v := 0) hx hb dL_noted_1 (by decide) ?_
  refine lv_aload_n hx hb dL_noted_2 rfl (lv_at hl 0 rfl) ?_
  refine lv_iload_n hx hb dL_noted_3 rfl (lv_at hl 1 rfl) ?_
  refine lv_iload_n hx hb dL_noted_4 rfl (lv_at hl 2 rfl) ?_
  have hPc := hP.sub (ws' := [(h0, .inr (11, oX w sg ro tr gX)), (w, .inr (10, oW kd gW 0 0))]) [0, 1] rfl
  have hDc := hD.sub (ws' := [(h0, .inr (11, oX w sg ro tr gX)), (w, .inr (10, oW kd gW 0 0))]) [0, 1] (by decide) rfl
  have hKc := hK.sub (tys' := []) [] rfl
  have hFc := roF hS hA
  refine vx_calli (vx_runV (As := [.int a0, .int a1]) (rest := [.int 0, .ref ou]) ⟨hx, hb, hml, hown, hts⟩ (c_X11_noted l dC dI s.heap.size hfl h0 w sg ro tr gX kd gW a0 a1) (cwV 2 hts (gV u_1074 u_1075 u_1076 u_1 u_1077) rfl rfl rfl (by decide +kernel) ⟨Nat.le_of_ble_eq_true rfl, Nat.le_of_ble_eq_true rfl⟩) ⟨gPZ_blind, va_recv hKc hPc (ci := 11) (q0 := 0) rfl rfl, gPZ_call hPc hKc hDc hE hZ hS hFc⟩ rfl rfl hl.1 rfl (lv_room (Nat.le_of_ble_eq_true rfl)) dL_noted_5 ⟨(Nat.le_of_ble_eq_true rfl), (Nat.le_of_ble_eq_true rfl)⟩) hS (fun q _ h => hFc q h) hFc (fun q _ h => hFc q h) (fun E9 ce9 q123 u9 t9 H121 locs ht hvm hpx hBX hz1 hk1 hS hce hcv hcl => ?_) (fun r122 u9 t9 H121 locs ht hvm hw hB hz1 hk1 hS => hw.elim)
  subst hBX
  refine vx_widen (k := 1) (n := 6) (Nat.le_of_ble_eq_true rfl) (Nat.le_of_ble_eq_true rfl) ?_
  refine vx_catch (pc := 5) hown [] ⟨0, 10, 13, 21⟩ [⟨0, 10, 17, 13⟩] (by rw [htab]; rfl) (fun z hz => nomatch hz) (by decide) (by decide) (hts _ u_606) (va_Nw.use rfl (hE.1 _ n_8)) hce hcv hcl ?_
  have hP := roP hP hk1
  refine lv_astore (lv' := [(4, .ref q123), (0, .ref h0), (1, .int a0), (2, .int a1), (3, .ref ou)]) hx hb dL_noted_13 hl (by decide) rfl (fun ls hl => ?_)
  refine lv_iconst (v := 1) hx hb dL_noted_15 (by decide) ?_
  refine W.widen (k := 1) (n := 6) (Nat.le_of_ble_eq_true rfl) (Nat.le_of_ble_eq_true rfl) ?_
  exact W.iret (v := 1) hx hb hr (fun t ht hW => ⟨⟨1, (), rfl, rfl, trivial⟩, hS.F ht⟩) hS.2.2 dL_noted_16
set_option maxHeartbeats 4000000 in
set_option maxRecDepth 100000 in
theorem c_L_learnt (l : Launch) (dC : Nat → ClassId) (dI : Nat → Nat → Nat) (sz : Nat) (hfl : l.stackTraces = false) (h0 : Nat) (ou : Nat) (w : Nat) (sg : Nat) (ro : Nat) (tr : Nat) (gX : Nat → Nat) (kd : Nat) (gW : Nat → Nat) (a0 : Int32) (a1 : Int32) (a2 : Int32) : Met l yL_learnt (Cond.codeWith yL_learnt cL_learnt 6 (some .int) [(0, 12, 15, 21), (0, 12, 19, 13)] :: gU) ({ frames := 8, cells := 1, slots := 6, locals := 126 }) (gPZ dC dI sz [(h0, .inr (11, oX w sg ro tr gX)), (w, .inr (10, oW kd gW 0 0))] [] (va_A [] sz) [.ref h0, .int a0, .int a1, .int a2, .ref ou]) (va_Qi (fun (r : Int32) (_ : Unit) => r = 1) (fun _ _ => True) (va_A [] sz)) 1 6 (va_A [] sz) := by
  refine va_MetW (cc := cL_learnt) (maxL := 6) (ret := (some .int)) (by decide) rfl ?_
  intro p e s m args below meth c s₁ B hml hv
  obtain ⟨rfl, hsz, hP, hK, hD0, hE, hZ⟩ := hv
  have hx := B.exec
  have hb := B.bytes
  have hr := B.returns
  have hts0 := atoms_spec (ws := Cond.codeWith yL_learnt cL_learnt 6 (some .int) [(0, 12, 15, 21), (0, 12, 19, 13)] :: gU) B.pre
  have hts : ∀ w ∈ gU, w.before _ s = true := fun w h => hts0 w (List.mem_cons_of_mem _ h)
  have hown : s.vm.findClass RL = some m.cls := findClass_of_methodNamed B.named
  have hlocks := B.notSynchronized
  have htab := vx_table (x := yL_learnt) B (hts0 _ List.mem_cons_self)
  subst hsz
  have hD := hD0
  generalize hAe : va_A [] s.heap.size = A at hZ ⊢
  have hA : ∀ q : Nat, s.heap.size ≤ q → A q := fun q h => by rw [← hAe]; exact Or.inr h
  have hS : va_S A s.heap s.heap [] := va_S.rf
  have hP : va_P (dC, dI) vwCl [(h0, .inr (11, oX w sg ro tr gX)), (w, .inr (10, oW kd gW 0 0))] s.heap := hP
  have hl := lv_entry ([.ref h0, .int a0, .int a1, .int a2, .ref ou]) (n := 6) (Nat.le_of_ble_eq_true rfl)
  rw [lg_entry_eq]
  generalize (lg_sl ([.ref h0, .int a0, .int a1, .int a2, .ref ou]) ++ List.replicate (6 - (lg_sl ([.ref h0, .int a0, .int a1, .int a2, .ref ou])).length) Slot.unset).toArray = ls at hl ⊢
  have hl : lv_has ls 6 [(0, .ref h0), (1, .int a0), (2, .int a1), (3, .int a2), (4, .ref ou)] := hl
  refine lv_aload hx hb dL_learnt_0 (lv_at hl 4 rfl) ?_
  refine lv_iconst (v := 0) hx hb dL_learnt_2 (by decide) ?_
  refine lv_aload_n hx hb dL_learnt_3 rfl (lv_at hl 0 rfl) ?_
  refine lv_iload_n hx hb dL_learnt_4 rfl (lv_at hl 1 rfl) ?_
  refine lv_iload_n hx hb dL_learnt_5 rfl (lv_at hl 2 rfl) ?_
  refine lv_iload_n hx hb dL_learnt_6 rfl (lv_at hl 3 rfl) ?_
  have hPc := hP.sub (ws' := [(h0, .inr (11, oX w sg ro tr gX)), (w, .inr (10, oW kd gW 0 0))]) [0, 1] rfl
  have hDc := hD.sub (ws' := [(h0, .inr (11, oX w sg ro tr gX)), (w, .inr (10, oW kd gW 0 0))]) [0, 1] (by decide) rfl
  have hKc := hK.sub (tys' := []) [] rfl
  have hFc := roF hS hA
  refine vx_calli (vx_runV (As := [.int a0, .int a1, .int a2]) (rest := [.int 0, .ref ou]) ⟨hx, hb, hml, hown, hts⟩ (c_X11_learnt l dC dI s.heap.size hfl h0 w sg ro tr gX kd gW a0 a1 a2) (cwV 3 hts (gV u_1082 u_1083 u_1084 u_1 u_1085) rfl rfl rfl (by decide +kernel) ⟨Nat.le_of_ble_eq_true rfl, Nat.le_of_ble_eq_true rfl⟩) ⟨gPZ_blind, va_recv hKc hPc (ci := 11) (q0 := 0) rfl rfl, gPZ_call hPc hKc hDc hE hZ hS hFc⟩ rfl rfl hl.1 rfl (lv_room (Nat.le_of_ble_eq_true rfl)) dL_learnt_7 ⟨(Nat.le_of_ble_eq_true rfl), (Nat.le_of_ble_eq_true rfl)⟩) hS (fun q _ h => hFc q h) hFc (fun q _ h => hFc q h) (fun E9 ce9 q126 u9 t9 H124 locs ht hvm hpx hBX hz1 hk1 hS hce hcv hcl => ?_) (fun r125 u9 t9 H124 locs ht hvm hw hB hz1 hk1 hS => hw.elim)
  subst hBX
  refine vx_widen (k := 1) (n := 6) (Nat.le_of_ble_eq_true rfl) (Nat.le_of_ble_eq_true rfl) ?_
  refine vx_catch (pc := 7) hown [] ⟨0, 12, 15, 21⟩ [⟨0, 12, 19, 13⟩] (by rw [htab]; rfl) (fun z hz => nomatch hz) (by decide) (by decide) (hts _ u_606) (va_Nw.use rfl (hE.1 _ n_8)) hce hcv hcl ?_
  have hP := roP hP hk1
  refine lv_astore (lv' := [(5, .ref q126), (0, .ref h0), (1, .int a0), (2, .int a1), (3, .int a2), (4, .ref ou)]) hx hb dL_learnt_15 hl (by decide) rfl (fun ls hl => ?_)
  refine lv_iconst (v := 1) hx hb dL_learnt_17 (by decide) ?_
  refine W.widen (k := 1) (n := 6) (Nat.le_of_ble_eq_true rfl) (Nat.le_of_ble_eq_true rfl) ?_
  exact W.iret (v := 1) hx hb hr (fun t ht hW => ⟨⟨1, (), rfl, rfl, trivial⟩, hS.F ht⟩) hS.2.2 dL_learnt_18
set_option maxHeartbeats 4000000 in
set_option maxRecDepth 100000 in
theorem c_L_reach (l : Launch) (dC : Nat → ClassId) (dI : Nat → Nat → Nat) (sz : Nat) (hfl : l.stackTraces = false) (h0 : Nat) (ou : Nat) (w : Nat) (sg : Nat) (ro : Nat) (tr : Nat) (gX : Nat → Nat) (kd : Nat) (gW : Nat → Nat) (a0 : Int32) (a1 : Int32) : Met l yL_reach (Cond.codeWith yL_reach cL_reach 5 (some .int) [(0, 10, 13, 21), (0, 10, 17, 13)] :: gU) ({ frames := 8, cells := 1, slots := 6, locals := 125 }) (gPZ dC dI sz [(h0, .inr (11, oX w sg ro tr gX)), (w, .inr (10, oW kd gW 0 0))] [] (va_A [] sz) [.ref h0, .int a0, .int a1, .ref ou]) (va_Qi (fun (r : Int32) (_ : Unit) => r = 1) (fun _ _ => True) (va_A [] sz)) 1 6 (va_A [] sz) := by
  refine va_MetW (cc := cL_reach) (maxL := 5) (ret := (some .int)) (by decide) rfl ?_
  intro p e s m args below meth c s₁ B hml hv
  obtain ⟨rfl, hsz, hP, hK, hD0, hE, hZ⟩ := hv
  have hx := B.exec
  have hb := B.bytes
  have hr := B.returns
  have hts0 := atoms_spec (ws := Cond.codeWith yL_reach cL_reach 5 (some .int) [(0, 10, 13, 21), (0, 10, 17, 13)] :: gU) B.pre
  have hts : ∀ w ∈ gU, w.before _ s = true := fun w h => hts0 w (List.mem_cons_of_mem _ h)
  have hown : s.vm.findClass RL = some m.cls := findClass_of_methodNamed B.named
  have hlocks := B.notSynchronized
  have htab := vx_table (x := yL_reach) B (hts0 _ List.mem_cons_self)
  subst hsz
  have hD := hD0
  generalize hAe : va_A [] s.heap.size = A at hZ ⊢
  have hA : ∀ q : Nat, s.heap.size ≤ q → A q := fun q h => by rw [← hAe]; exact Or.inr h
  have hS : va_S A s.heap s.heap [] := va_S.rf
  have hP : va_P (dC, dI) vwCl [(h0, .inr (11, oX w sg ro tr gX)), (w, .inr (10, oW kd gW 0 0))] s.heap := hP
  have hl := lv_entry ([.ref h0, .int a0, .int a1, .ref ou]) (n := 5) (Nat.le_of_ble_eq_true rfl)
  rw [lg_entry_eq]
  generalize (lg_sl ([.ref h0, .int a0, .int a1, .ref ou]) ++ List.replicate (5 - (lg_sl ([.ref h0, .int a0, .int a1, .ref ou])).length) Slot.unset).toArray = ls at hl ⊢
  have hl : lv_has ls 5 [(0, .ref h0), (1, .int a0), (2, .int a1), (3, .ref ou)] := hl
  refine lv_aload_n hx hb dL_reach_0 rfl (lv_at hl 3 rfl) ?_
  refine lv_iconst (v := 0) hx hb dL_reach_1 (by decide) ?_
  refine lv_aload_n hx hb dL_reach_2 rfl (lv_at hl 0 rfl) ?_
  refine lv_iload_n hx hb dL_reach_3 rfl (lv_at hl 1 rfl) ?_
  refine lv_iload_n hx hb dL_reach_4 rfl (lv_at hl 2 rfl) ?_
  have hPc := hP.sub (ws' := [(h0, .inr (11, oX w sg ro tr gX)), (w, .inr (10, oW kd gW 0 0))]) [0, 1] rfl
  have hDc := hD.sub (ws' := [(h0, .inr (11, oX w sg ro tr gX)), (w, .inr (10, oW kd gW 0 0))]) [0, 1] (by decide) rfl
  have hKc := hK.sub (tys' := []) [] rfl
  have hFc := roF hS hA
  refine vx_calli (vx_runV (As := [.int a0, .int a1]) (rest := [.int 0, .ref ou]) ⟨hx, hb, hml, hown, hts⟩ (c_X11_reach l dC dI s.heap.size hfl h0 w sg ro tr gX kd gW a0 a1) (cwV 2 hts (gV u_1094 u_1095 u_1096 u_1 u_1097) rfl rfl rfl (by decide +kernel) ⟨Nat.le_of_ble_eq_true rfl, Nat.le_of_ble_eq_true rfl⟩) ⟨gPZ_blind, va_recv hKc hPc (ci := 11) (q0 := 0) rfl rfl, gPZ_call hPc hKc hDc hE hZ hS hFc⟩ rfl rfl hl.1 rfl (lv_room (Nat.le_of_ble_eq_true rfl)) dL_reach_5 ⟨(Nat.le_of_ble_eq_true rfl), (Nat.le_of_ble_eq_true rfl)⟩) hS (fun q _ h => hFc q h) hFc (fun q _ h => hFc q h) (fun E9 ce9 q129 u9 t9 H127 locs ht hvm hpx hBX hz1 hk1 hS hce hcv hcl => ?_) (fun r128 u9 t9 H127 locs ht hvm hw hB hz1 hk1 hS => hw.elim)
  subst hBX
  refine vx_widen (k := 1) (n := 6) (Nat.le_of_ble_eq_true rfl) (Nat.le_of_ble_eq_true rfl) ?_
  refine vx_catch (pc := 5) hown [] ⟨0, 10, 13, 21⟩ [⟨0, 10, 17, 13⟩] (by rw [htab]; rfl) (fun z hz => nomatch hz) (by decide) (by decide) (hts _ u_606) (va_Nw.use rfl (hE.1 _ n_8)) hce hcv hcl ?_
  have hP := roP hP hk1
  refine lv_astore (lv' := [(4, .ref q129), (0, .ref h0), (1, .int a0), (2, .int a1), (3, .ref ou)]) hx hb dL_reach_13 hl (by decide) rfl (fun ls hl => ?_)
  refine lv_iconst (v := 1) hx hb dL_reach_15 (by decide) ?_
  refine W.widen (k := 1) (n := 6) (Nat.le_of_ble_eq_true rfl) (Nat.le_of_ble_eq_true rfl) ?_
  exact W.iret (v := 1) hx hb hr (fun t ht hW => ⟨⟨1, (), rfl, rfl, trivial⟩, hS.F ht⟩) hS.2.2 dL_reach_16
set_option maxHeartbeats 4000000 in
set_option maxRecDepth 100000 in
theorem c_L_reachAnew (l : Launch) (dC : Nat → ClassId) (dI : Nat → Nat → Nat) (sz : Nat) (hfl : l.stackTraces = false) (h0 : Nat) (ou : Nat) (w : Nat) (sg : Nat) (ro : Nat) (tr : Nat) (gX : Nat → Nat) (kd : Nat) (gW : Nat → Nat) (a0 : Int32) (a1 : Int32) : Met l yL_reachAnew (Cond.codeWith yL_reachAnew cL_reachAnew 5 (some .int) [(0, 10, 13, 21), (0, 10, 17, 13)] :: gU) ({ frames := 8, cells := 1, slots := 6, locals := 125 }) (gPZ dC dI sz [(h0, .inr (11, oX w sg ro tr gX)), (w, .inr (10, oW kd gW 0 0))] [] (va_A [] sz) [.ref h0, .int a0, .int a1, .ref ou]) (va_Qi (fun (r : Int32) (_ : Unit) => r = 1) (fun _ _ => True) (va_A [] sz)) 1 6 (va_A [] sz) := by
  refine va_MetW (cc := cL_reachAnew) (maxL := 5) (ret := (some .int)) (by decide) rfl ?_
  intro p e s m args below meth c s₁ B hml hv
  obtain ⟨rfl, hsz, hP, hK, hD0, hE, hZ⟩ := hv
  have hx := B.exec
  have hb := B.bytes
  have hr := B.returns
  have hts0 := atoms_spec (ws := Cond.codeWith yL_reachAnew cL_reachAnew 5 (some .int) [(0, 10, 13, 21), (0, 10, 17, 13)] :: gU) B.pre
  have hts : ∀ w ∈ gU, w.before _ s = true := fun w h => hts0 w (List.mem_cons_of_mem _ h)
  have hown : s.vm.findClass RL = some m.cls := findClass_of_methodNamed B.named
  have hlocks := B.notSynchronized
  have htab := vx_table (x := yL_reachAnew) B (hts0 _ List.mem_cons_self)
  subst hsz
  have hD := hD0
  generalize hAe : va_A [] s.heap.size = A at hZ ⊢
  have hA : ∀ q : Nat, s.heap.size ≤ q → A q := fun q h => by rw [← hAe]; exact Or.inr h
  have hS : va_S A s.heap s.heap [] := va_S.rf
  have hP : va_P (dC, dI) vwCl [(h0, .inr (11, oX w sg ro tr gX)), (w, .inr (10, oW kd gW 0 0))] s.heap := hP
  have hl := lv_entry ([.ref h0, .int a0, .int a1, .ref ou]) (n := 5) (Nat.le_of_ble_eq_true rfl)
  rw [lg_entry_eq]
  generalize (lg_sl ([.ref h0, .int a0, .int a1, .ref ou]) ++ List.replicate (5 - (lg_sl ([.ref h0, .int a0, .int a1, .ref ou])).length) Slot.unset).toArray = ls at hl ⊢
  have hl : lv_has ls 5 [(0, .ref h0), (1, .int a0), (2, .int a1), (3, .ref ou)] := hl
  refine lv_aload_n hx hb dL_reachAnew_0 rfl (lv_at hl 3 rfl) ?_
  refine lv_iconst (v := 0) hx hb dL_reachAnew_1 (by decide) ?_
  refine lv_aload_n hx hb dL_reachAnew_2 rfl (lv_at hl 0 rfl) ?_
  refine lv_iload_n hx hb dL_reachAnew_3 rfl (lv_at hl 1 rfl) ?_
  refine lv_iload_n hx hb dL_reachAnew_4 rfl (lv_at hl 2 rfl) ?_
  have hPc := hP.sub (ws' := [(h0, .inr (11, oX w sg ro tr gX)), (w, .inr (10, oW kd gW 0 0))]) [0, 1] rfl
  have hDc := hD.sub (ws' := [(h0, .inr (11, oX w sg ro tr gX)), (w, .inr (10, oW kd gW 0 0))]) [0, 1] (by decide) rfl
  have hKc := hK.sub (tys' := []) [] rfl
  have hFc := roF hS hA
  refine vx_calli (vx_runV (As := [.int a0, .int a1]) (rest := [.int 0, .ref ou]) ⟨hx, hb, hml, hown, hts⟩ (c_X11_reachAnew l dC dI s.heap.size hfl h0 w sg ro tr gX kd gW a0 a1) (cwV 2 hts (gV u_1204 u_1205 u_1206 u_1 u_1207) rfl rfl rfl (by decide +kernel) ⟨Nat.le_of_ble_eq_true rfl, Nat.le_of_ble_eq_true rfl⟩) ⟨gPZ_blind, va_recv hKc hPc (ci := 11) (q0 := 0) rfl rfl, gPZ_call hPc hKc hDc hE hZ hS hFc⟩ rfl rfl hl.1 rfl (lv_room (Nat.le_of_ble_eq_true rfl)) dL_reachAnew_5 ⟨(Nat.le_of_ble_eq_true rfl), (Nat.le_of_ble_eq_true rfl)⟩) hS (fun q _ h => hFc q h) hFc (fun q _ h => hFc q h) (fun E9 ce9 q132 u9 t9 H130 locs ht hvm hpx hBX hz1 hk1 hS hce hcv hcl => ?_) (fun r131 u9 t9 H130 locs ht hvm hw hB hz1 hk1 hS => hw.elim)
  subst hBX
  refine vx_widen (k := 1) (n := 6) (Nat.le_of_ble_eq_true rfl) (Nat.le_of_ble_eq_true rfl) ?_
  refine vx_catch (pc := 5) hown [] ⟨0, 10, 13, 21⟩ [⟨0, 10, 17, 13⟩] (by rw [htab]; rfl) (fun z hz => nomatch hz) (by decide) (by decide) (hts _ u_606) (va_Nw.use rfl (hE.1 _ n_8)) hce hcv hcl ?_
  have hP := roP hP hk1
  refine lv_astore (lv' := [(4, .ref q132), (0, .ref h0), (1, .int a0), (2, .int a1), (3, .ref ou)]) hx hb dL_reachAnew_13 hl (by decide) rfl (fun ls hl => ?_)
  refine lv_iconst (v := 1) hx hb dL_reachAnew_15 (by decide) ?_
  refine W.widen (k := 1) (n := 6) (Nat.le_of_ble_eq_true rfl) (Nat.le_of_ble_eq_true rfl) ?_
  exact W.iret (v := 1) hx hb hr (fun t ht hW => ⟨⟨1, (), rfl, rfl, trivial⟩, hS.F ht⟩) hS.2.2 dL_reachAnew_16
set_option maxHeartbeats 4000000 in
set_option maxRecDepth 100000 in
theorem c_L_proved (l : Launch) (dC : Nat → ClassId) (dI : Nat → Nat → Nat) (sz : Nat) (hfl : l.stackTraces = false) (h0 : Nat) (ou : Nat) (w : Nat) (sg : Nat) (ro : Nat) (tr : Nat) (gX : Nat → Nat) (kd : Nat) (gW : Nat → Nat) (a0 : Int32) (a1 : Int32) (a2 : Int32) : Met l yL_proved (Cond.codeWith yL_proved cL_proved 6 (some .int) [(0, 12, 15, 21), (0, 12, 19, 13)] :: gU) ({ frames := 8, cells := 1, slots := 6, locals := 126 }) (gPZ dC dI sz [(h0, .inr (11, oX w sg ro tr gX)), (w, .inr (10, oW kd gW 0 0))] [] (va_A [] sz) [.ref h0, .int a0, .int a1, .int a2, .ref ou]) (va_Qi (fun (r : Int32) (_ : Unit) => r = 1) (fun _ _ => True) (va_A [] sz)) 1 6 (va_A [] sz) := by
  refine va_MetW (cc := cL_proved) (maxL := 6) (ret := (some .int)) (by decide) rfl ?_
  intro p e s m args below meth c s₁ B hml hv
  obtain ⟨rfl, hsz, hP, hK, hD0, hE, hZ⟩ := hv
  have hx := B.exec
  have hb := B.bytes
  have hr := B.returns
  have hts0 := atoms_spec (ws := Cond.codeWith yL_proved cL_proved 6 (some .int) [(0, 12, 15, 21), (0, 12, 19, 13)] :: gU) B.pre
  have hts : ∀ w ∈ gU, w.before _ s = true := fun w h => hts0 w (List.mem_cons_of_mem _ h)
  have hown : s.vm.findClass RL = some m.cls := findClass_of_methodNamed B.named
  have hlocks := B.notSynchronized
  have htab := vx_table (x := yL_proved) B (hts0 _ List.mem_cons_self)
  subst hsz
  have hD := hD0
  generalize hAe : va_A [] s.heap.size = A at hZ ⊢
  have hA : ∀ q : Nat, s.heap.size ≤ q → A q := fun q h => by rw [← hAe]; exact Or.inr h
  have hS : va_S A s.heap s.heap [] := va_S.rf
  have hP : va_P (dC, dI) vwCl [(h0, .inr (11, oX w sg ro tr gX)), (w, .inr (10, oW kd gW 0 0))] s.heap := hP
  have hl := lv_entry ([.ref h0, .int a0, .int a1, .int a2, .ref ou]) (n := 6) (Nat.le_of_ble_eq_true rfl)
  rw [lg_entry_eq]
  generalize (lg_sl ([.ref h0, .int a0, .int a1, .int a2, .ref ou]) ++ List.replicate (6 - (lg_sl ([.ref h0, .int a0, .int a1, .int a2, .ref ou])).length) Slot.unset).toArray = ls at hl ⊢
  have hl : lv_has ls 6 [(0, .ref h0), (1, .int a0), (2, .int a1), (3, .int a2), (4, .ref ou)] := hl
  refine lv_aload hx hb dL_proved_0 (lv_at hl 4 rfl) ?_
  refine lv_iconst (v := 0) hx hb dL_proved_2 (by decide) ?_
  refine lv_aload_n hx hb dL_proved_3 rfl (lv_at hl 0 rfl) ?_
  refine lv_iload_n hx hb dL_proved_4 rfl (lv_at hl 1 rfl) ?_
  refine lv_iload_n hx hb dL_proved_5 rfl (lv_at hl 2 rfl) ?_
  refine lv_iload_n hx hb dL_proved_6 rfl (lv_at hl 3 rfl) ?_
  have hPc := hP.sub (ws' := [(h0, .inr (11, oX w sg ro tr gX)), (w, .inr (10, oW kd gW 0 0))]) [0, 1] rfl
  have hDc := hD.sub (ws' := [(h0, .inr (11, oX w sg ro tr gX)), (w, .inr (10, oW kd gW 0 0))]) [0, 1] (by decide) rfl
  have hKc := hK.sub (tys' := []) [] rfl
  have hFc := roF hS hA
  refine vx_calli (vx_runV (As := [.int a0, .int a1, .int a2]) (rest := [.int 0, .ref ou]) ⟨hx, hb, hml, hown, hts⟩ (c_X11_proved l dC dI s.heap.size hfl h0 w sg ro tr gX kd gW a0 a1 a2) (cwV 3 hts (gV u_1227 u_1228 u_1229 u_1 u_1230) rfl rfl rfl (by decide +kernel) ⟨Nat.le_of_ble_eq_true rfl, Nat.le_of_ble_eq_true rfl⟩) ⟨gPZ_blind, va_recv hKc hPc (ci := 11) (q0 := 0) rfl rfl, gPZ_call hPc hKc hDc hE hZ hS hFc⟩ rfl rfl hl.1 rfl (lv_room (Nat.le_of_ble_eq_true rfl)) dL_proved_7 ⟨(Nat.le_of_ble_eq_true rfl), (Nat.le_of_ble_eq_true rfl)⟩) hS (fun q _ h => hFc q h) hFc (fun q _ h => hFc q h) (fun E9 ce9 q135 u9 t9 H133 locs ht hvm hpx hBX hz1 hk1 hS hce hcv hcl => ?_) (fun r134 u9 t9 H133 locs ht hvm hw hB hz1 hk1 hS => hw.elim)
  subst hBX
  refine vx_widen (k := 1) (n := 6) (Nat.le_of_ble_eq_true rfl) (Nat.le_of_ble_eq_true rfl) ?_
  refine vx_catch (pc := 7) hown [] ⟨0, 12, 15, 21⟩ [⟨0, 12, 19, 13⟩] (by rw [htab]; rfl) (fun z hz => nomatch hz) (by decide) (by decide) (hts _ u_606) (va_Nw.use rfl (hE.1 _ n_8)) hce hcv hcl ?_
  have hP := roP hP hk1
  refine lv_astore (lv' := [(5, .ref q135), (0, .ref h0), (1, .int a0), (2, .int a1), (3, .int a2), (4, .ref ou)]) hx hb dL_proved_15 hl (by decide) rfl (fun ls hl => ?_)
  refine lv_iconst (v := 1) hx hb dL_proved_17 (by decide) ?_
  refine W.widen (k := 1) (n := 6) (Nat.le_of_ble_eq_true rfl) (Nat.le_of_ble_eq_true rfl) ?_
  exact W.iret (v := 1) hx hb hr (fun t ht hW => ⟨⟨1, (), rfl, rfl, trivial⟩, hS.F ht⟩) hS.2.2 dL_proved_18
set_option maxHeartbeats 4000000 in
set_option maxRecDepth 100000 in
theorem c_L_way (l : Launch) (dC : Nat → ClassId) (dI : Nat → Nat → Nat) (sz : Nat) (hfl : l.stackTraces = false) (h0 : Nat) (ou : Nat) (w : Nat) (sg : Nat) (ro : Nat) (tr : Nat) (gX : Nat → Nat) (kd : Nat) (gW : Nat → Nat) (a0 : Int32) (a1 : Int32) (a2 : Int32) (a3 : Int32) : Met l yL_way (Cond.codeWith yL_way cL_way 7 (some .int) [(0, 14, 17, 21), (0, 14, 21, 13)] :: gU) ({ frames := 8, cells := 1, slots := 6, locals := 127 }) (gPZ dC dI sz [(h0, .inr (11, oX w sg ro tr gX)), (w, .inr (10, oW kd gW 0 0))] [] (va_A [] sz) [.ref h0, .int a0, .int a1, .int a2, .int a3, .ref ou]) (va_Qi (fun (r : Int32) (_ : Unit) => r = 1) (fun _ _ => True) (va_A [] sz)) 1 6 (va_A [] sz) := by
  refine va_MetW (cc := cL_way) (maxL := 7) (ret := (some .int)) (by decide) rfl ?_
  intro p e s m args below meth c s₁ B hml hv
  obtain ⟨rfl, hsz, hP, hK, hD0, hE, hZ⟩ := hv
  have hx := B.exec
  have hb := B.bytes
  have hr := B.returns
  have hts0 := atoms_spec (ws := Cond.codeWith yL_way cL_way 7 (some .int) [(0, 14, 17, 21), (0, 14, 21, 13)] :: gU) B.pre
  have hts : ∀ w ∈ gU, w.before _ s = true := fun w h => hts0 w (List.mem_cons_of_mem _ h)
  have hown : s.vm.findClass RL = some m.cls := findClass_of_methodNamed B.named
  have hlocks := B.notSynchronized
  have htab := vx_table (x := yL_way) B (hts0 _ List.mem_cons_self)
  subst hsz
  have hD := hD0
  generalize hAe : va_A [] s.heap.size = A at hZ ⊢
  have hA : ∀ q : Nat, s.heap.size ≤ q → A q := fun q h => by rw [← hAe]; exact Or.inr h
  have hS : va_S A s.heap s.heap [] := va_S.rf
  have hP : va_P (dC, dI) vwCl [(h0, .inr (11, oX w sg ro tr gX)), (w, .inr (10, oW kd gW 0 0))] s.heap := hP
  have hl := lv_entry ([.ref h0, .int a0, .int a1, .int a2, .int a3, .ref ou]) (n := 7) (Nat.le_of_ble_eq_true rfl)
  rw [lg_entry_eq]
  generalize (lg_sl ([.ref h0, .int a0, .int a1, .int a2, .int a3, .ref ou]) ++ List.replicate (7 - (lg_sl ([.ref h0, .int a0, .int a1, .int a2, .int a3, .ref ou])).length) Slot.unset).toArray = ls at hl ⊢
  have hl : lv_has ls 7 [(0, .ref h0), (1, .int a0), (2, .int a1), (3, .int a2), (4, .int a3), (5, .ref ou)] := hl
  refine lv_aload hx hb dL_way_0 (lv_at hl 5 rfl) ?_
  refine lv_iconst (v := 0) hx hb dL_way_2 (by decide) ?_
  refine lv_aload_n hx hb dL_way_3 rfl (lv_at hl 0 rfl) ?_
  refine lv_iload_n hx hb dL_way_4 rfl (lv_at hl 1 rfl) ?_
  refine lv_iload_n hx hb dL_way_5 rfl (lv_at hl 2 rfl) ?_
  refine lv_iload_n hx hb dL_way_6 rfl (lv_at hl 3 rfl) ?_
  refine lv_iload hx hb dL_way_7 (lv_at hl 4 rfl) ?_
  have hPc := hP.sub (ws' := [(h0, .inr (11, oX w sg ro tr gX)), (w, .inr (10, oW kd gW 0 0))]) [0, 1] rfl
  have hDc := hD.sub (ws' := [(h0, .inr (11, oX w sg ro tr gX)), (w, .inr (10, oW kd gW 0 0))]) [0, 1] (by decide) rfl
  have hKc := hK.sub (tys' := []) [] rfl
  have hFc := roF hS hA
  refine vx_calli (vx_runV (As := [.int a0, .int a1, .int a2, .int a3]) (rest := [.int 0, .ref ou]) ⟨hx, hb, hml, hown, hts⟩ (c_X11_way l dC dI s.heap.size hfl h0 w sg ro tr gX kd gW a0 a1 a2 a3) (cwV 4 hts (gV u_1235 u_1236 u_1237 u_1 u_1238) rfl rfl rfl (by decide +kernel) ⟨Nat.le_of_ble_eq_true rfl, Nat.le_of_ble_eq_true rfl⟩) ⟨gPZ_blind, va_recv hKc hPc (ci := 11) (q0 := 0) rfl rfl, gPZ_call hPc hKc hDc hE hZ hS hFc⟩ rfl rfl hl.1 rfl (lv_room (Nat.le_of_ble_eq_true rfl)) dL_way_9 ⟨(Nat.le_of_ble_eq_true rfl), (Nat.le_of_ble_eq_true rfl)⟩) hS (fun q _ h => hFc q h) hFc (fun q _ h => hFc q h) (fun E9 ce9 q138 u9 t9 H136 locs ht hvm hpx hBX hz1 hk1 hS hce hcv hcl => ?_) (fun r137 u9 t9 H136 locs ht hvm hw hB hz1 hk1 hS => hw.elim)
  subst hBX
  refine vx_widen (k := 1) (n := 6) (Nat.le_of_ble_eq_true rfl) (Nat.le_of_ble_eq_true rfl) ?_
  refine vx_catch (pc := 9) hown [] ⟨0, 14, 17, 21⟩ [⟨0, 14, 21, 13⟩] (by rw [htab]; rfl) (fun z hz => nomatch hz) (by decide) (by decide) (hts _ u_606) (va_Nw.use rfl (hE.1 _ n_8)) hce hcv hcl ?_
  have hP := roP hP hk1
  refine lv_astore (lv' := [(6, .ref q138), (0, .ref h0), (1, .int a0), (2, .int a1), (3, .int a2), (4, .int a3), (5, .ref ou)]) hx hb dL_way_17 hl (by decide) rfl (fun ls hl => ?_)
  refine lv_iconst (v := 1) hx hb dL_way_19 (by decide) ?_
  refine W.widen (k := 1) (n := 6) (Nat.le_of_ble_eq_true rfl) (Nat.le_of_ble_eq_true rfl) ?_
  exact W.iret (v := 1) hx hb hr (fun t ht hW => ⟨⟨1, (), rfl, rfl, trivial⟩, hS.F ht⟩) hS.2.2 dL_way_20
