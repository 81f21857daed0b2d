theorem dX12_box_0 : decode cX12_box 0 = .ok (.aload_n 0, 1) := by decide +kernel
theorem dX12_box_1 : decode cX12_box 1 = .ok (.iload_n 1, 1) := by decide +kernel
theorem dX12_box_2 : decode cX12_box 2 = .ok (.iconst 0, 1) := by decide +kernel
theorem dX12_box_3 : decode cX12_box 3 = .ok (.iconst 2, 1) := by decide +kernel
theorem dX12_box_4 : decode cX12_box 4 = .ok (.invokestatic 132, 3) := by decide +kernel
theorem dX12_box_7 : decode cX12_box 7 = .ok (.ifCond .ne 7, 3) := by decide +kernel
theorem dX12_box_10 : decode cX12_box 10 = .ok (.iconst 1, 1) := by decide +kernel
theorem dX12_box_11 : decode cX12_box 11 = .ok (.goto 17, 3) := by decide +kernel
theorem dX12_box_14 : decode cX12_box 14 = .ok (.aload_n 0, 1) := by decide +kernel
theorem dX12_box_15 : decode cX12_box 15 = .ok (.getfield 129, 3) := by decide +kernel
theorem dX12_box_18 : decode cX12_box 18 = .ok (.bipush 10, 2) := by decide +kernel
theorem dX12_box_20 : decode cX12_box 20 = .ok (.if_icmp .ne 7, 3) := by decide +kernel
theorem dX12_box_27 : decode cX12_box 27 = .ok (.iconst 0, 1) := by decide +kernel
theorem dX12_box_28 : decode cX12_box 28 = .ok (.invokevirtual 140, 3) := by decide +kernel
theorem dX12_box_31 : decode cX12_box 31 = .ok (.ifCond .ne 5, 3) := by decide +kernel
theorem dX12_box_34 : decode cX12_box 34 = .ok (.iconst 0, 1) := by decide +kernel
theorem dX12_box_35 : decode cX12_box 35 = .ok (.ireturn, 1) := by decide +kernel
theorem dX12_box_36 : decode cX12_box 36 = .ok (.aload_n 0, 1) := by decide +kernel
theorem dX12_box_37 : decode cX12_box 37 = .ok (.getfield 7, 3) := by decide +kernel
theorem dX12_box_40 : decode cX12_box 40 = .ok (.aload_n 0, 1) := by decide +kernel
theorem dX12_box_41 : decode cX12_box 41 = .ok (.getfield 129, 3) := by decide +kernel
theorem dX12_box_44 : decode cX12_box 44 = .ok (.iload_n 1, 1) := by decide +kernel
theorem dX12_box_45 : decode cX12_box 45 = .ok (.iastore, 1) := by decide +kernel
theorem dX12_box_46 : decode cX12_box 46 = .ok (.aload_n 0, 1) := by decide +kernel
theorem dX12_box_47 : decode cX12_box 47 = .ok (.getfield 41, 3) := by decide +kernel
theorem dX12_box_50 : decode cX12_box 50 = .ok (.aload_n 0, 1) := by decide +kernel
theorem dX12_box_51 : decode cX12_box 51 = .ok (.getfield 129, 3) := by decide +kernel
theorem dX12_box_54 : decode cX12_box 54 = .ok (.iconst (-1), 1) := by decide +kernel
theorem dX12_box_55 : decode cX12_box 55 = .ok (.iastore, 1) := by decide +kernel
theorem dX12_box_56 : decode cX12_box 56 = .ok (.aload_n 0, 1) := by decide +kernel
theorem dX12_box_57 : decode cX12_box 57 = .ok (.dup, 1) := by decide +kernel
theorem dX12_box_58 : decode cX12_box 58 = .ok (.getfield 129, 3) := by decide +kernel
theorem dX12_box_61 : decode cX12_box 61 = .ok (.iconst 1, 1) := by decide +kernel
theorem dX12_box_62 : decode cX12_box 62 = .ok (.iadd, 1) := by decide +kernel
theorem dX12_box_63 : decode cX12_box 63 = .ok (.putfield 129, 3) := by decide +kernel
theorem dX12_box_66 : decode cX12_box 66 = .ok (.aload_n 0, 1) := by decide +kernel
theorem dX12_box_67 : decode cX12_box 67 = .ok (.getfield 129, 3) := by decide +kernel
theorem dX12_box_70 : decode cX12_box 70 = .ok (.iconst 1, 1) := by decide +kernel
theorem dX12_box_71 : decode cX12_box 71 = .ok (.isub, 1) := by decide +kernel
theorem dX12_box_72 : decode cX12_box 72 = .ok (.ireturn, 1) := by decide +kernel
theorem dX12_goesOn_0 : decode cX12_goesOn 0 = .ok (.aload_n 0, 1) := by decide +kernel
theorem dX12_goesOn_1 : decode cX12_goesOn 1 = .ok (.dup, 1) := by decide +kernel
theorem dX12_goesOn_2 : decode cX12_goesOn 2 = .ok (.getfield 233, 3) := by decide +kernel
theorem dX12_goesOn_5 : decode cX12_goesOn 5 = .ok (.iconst 1, 1) := by decide +kernel
theorem dX12_goesOn_6 : decode cX12_goesOn 6 = .ok (.iadd, 1) := by decide +kernel
theorem dX12_goesOn_7 : decode cX12_goesOn 7 = .ok (.putfield 233, 3) := by decide +kernel
theorem dX12_goesOn_10 : decode cX12_goesOn 10 = .ok (.aload_n 0, 1) := by decide +kernel
theorem dX12_goesOn_11 : decode cX12_goesOn 11 = .ok (.invokevirtual 186, 3) := by decide +kernel
theorem dX12_goesOn_14 : decode cX12_goesOn 14 = .ok (.aload_n 0, 1) := by decide +kernel
theorem dX12_goesOn_15 : decode cX12_goesOn 15 = .ok (.iconst 0, 1) := by decide +kernel
theorem dX12_goesOn_16 : decode cX12_goesOn 16 = .ok (.invokevirtual 290, 3) := by decide +kernel
theorem dX12_goesOn_19 : decode cX12_goesOn 19 = .ok (.pop, 1) := by decide +kernel
theorem dX12_goesOn_20 : decode cX12_goesOn 20 = .ok (.aload_n 0, 1) := by decide +kernel
theorem dX12_goesOn_21 : decode cX12_goesOn 21 = .ok (.getfield 243, 3) := by decide +kernel
theorem dX12_goesOn_24 : decode cX12_goesOn 24 = .ok (.istore_n 1, 1) := by decide +kernel
theorem dX12_goesOn_25 : decode cX12_goesOn 25 = .ok (.iconst 0, 1) := by decide +kernel
theorem dX12_goesOn_26 : decode cX12_goesOn 26 = .ok (.istore_n 2, 1) := by decide +kernel
theorem dX12_goesOn_27 : decode cX12_goesOn 27 = .ok (.iload_n 2, 1) := by decide +kernel
theorem dX12_goesOn_28 : decode cX12_goesOn 28 = .ok (.iload_n 1, 1) := by decide +kernel
theorem dX12_goesOn_29 : decode cX12_goesOn 29 = .ok (.if_icmp .ge 107, 3) := by decide +kernel
theorem dX12_goesOn_136 : decode cX12_goesOn 136 = .ok (.aload_n 0, 1) := by decide +kernel
theorem dX12_goesOn_137 : decode cX12_goesOn 137 = .ok (.invokevirtual 263, 3) := by decide +kernel
theorem dX12_goesOn_140 : decode cX12_goesOn 140 = .ok (.return_, 1) := by decide +kernel
theorem dX12_grows_0 : decode cX12_grows 0 = .ok (.iconst 0, 1) := by decide +kernel
theorem dX12_grows_1 : decode cX12_grows 1 = .ok (.istore_n 1, 1) := by decide +kernel
theorem dX12_grows_2 : decode cX12_grows 2 = .ok (.iload_n 1, 1) := by decide +kernel
theorem dX12_grows_3 : decode cX12_grows 3 = .ok (.bipush 10, 2) := by decide +kernel
theorem dX12_grows_5 : decode cX12_grows 5 = .ok (.if_icmp .ge 17, 3) := by decide +kernel
theorem dX12_grows_8 : decode cX12_grows 8 = .ok (.aload_n 0, 1) := by decide +kernel
theorem dX12_grows_9 : decode cX12_grows 9 = .ok (.getfield 26, 3) := by decide +kernel
theorem dX12_grows_12 : decode cX12_grows 12 = .ok (.iload_n 1, 1) := by decide +kernel
theorem dX12_grows_13 : decode cX12_grows 13 = .ok (.bipush 100, 2) := by decide +kernel
theorem dX12_grows_15 : decode cX12_grows 15 = .ok (.iastore, 1) := by decide +kernel
theorem dX12_grows_16 : decode cX12_grows 16 = .ok (.iinc 1 1, 3) := by decide +kernel
theorem dX12_grows_19 : decode cX12_grows 19 = .ok (.goto (-17), 3) := by decide +kernel
theorem dX12_grows_22 : decode cX12_grows 22 = .ok (.iconst 0, 1) := by decide +kernel
theorem dX12_grows_23 : decode cX12_grows 23 = .ok (.istore_n 1, 1) := by decide +kernel
theorem dX12_grows_24 : decode cX12_grows 24 = .ok (.iload_n 1, 1) := by decide +kernel
theorem dX12_grows_25 : decode cX12_grows 25 = .ok (.aload_n 0, 1) := by decide +kernel
theorem dX12_grows_26 : decode cX12_grows 26 = .ok (.getfield 129, 3) := by decide +kernel
theorem dX12_grows_29 : decode cX12_grows 29 = .ok (.if_icmp .ge 192, 3) := by decide +kernel
theorem dX12_grows_221 : decode cX12_grows 221 = .ok (.iconst 0, 1) := by decide +kernel
theorem dX12_grows_222 : decode cX12_grows 222 = .ok (.istore_n 1, 1) := by decide +kernel
theorem dX12_grows_223 : decode cX12_grows 223 = .ok (.iload_n 1, 1) := by decide +kernel
theorem dX12_grows_224 : decode cX12_grows 224 = .ok (.aload_n 0, 1) := by decide +kernel
theorem dX12_grows_225 : decode cX12_grows 225 = .ok (.getfield 147, 3) := by decide +kernel
theorem dX12_grows_228 : decode cX12_grows 228 = .ok (.if_icmp .ge 37, 3) := by decide +kernel
theorem dX12_grows_265 : decode cX12_grows 265 = .ok (.iconst 0, 1) := by decide +kernel
theorem dX12_grows_266 : decode cX12_grows 266 = .ok (.istore_n 1, 1) := by decide +kernel
theorem dX12_grows_267 : decode cX12_grows 267 = .ok (.iload_n 1, 1) := by decide +kernel
theorem dX12_grows_268 : decode cX12_grows 268 = .ok (.aload_n 0, 1) := by decide +kernel
theorem dX12_grows_269 : decode cX12_grows 269 = .ok (.getfield 129, 3) := by decide +kernel
theorem dX12_grows_272 : decode cX12_grows 272 = .ok (.if_icmp .ge 50, 3) := by decide +kernel
theorem dX12_grows_322 : decode cX12_grows 322 = .ok (.return_, 1) := by decide +kernel
theorem dX12_learns_0 : decode cX12_learns 0 = .ok (.iconst 0, 1) := by decide +kernel
theorem dX12_learns_1 : decode cX12_learns 1 = .ok (.istore_n 2, 1) := by decide +kernel
theorem dX12_learns_2 : decode cX12_learns 2 = .ok (.iconst 0, 1) := by decide +kernel
theorem dX12_learns_3 : decode cX12_learns 3 = .ok (.istore_n 3, 1) := by decide +kernel
theorem dX12_learns_4 : decode cX12_learns 4 = .ok (.iload_n 3, 1) := by decide +kernel
theorem dX12_learns_5 : decode cX12_learns 5 = .ok (.aload_n 0, 1) := by decide +kernel
theorem dX12_learns_6 : decode cX12_learns 6 = .ok (.getfield 129, 3) := by decide +kernel
theorem dX12_learns_9 : decode cX12_learns 9 = .ok (.if_icmp .ge 56, 3) := by decide +kernel
theorem dX12_learns_65 : decode cX12_learns 65 = .ok (.iconst 0, 1) := by decide +kernel
theorem dX12_learns_66 : decode cX12_learns 66 = .ok (.istore_n 3, 1) := by decide +kernel
theorem dX12_learns_67 : decode cX12_learns 67 = .ok (.iload_n 3, 1) := by decide +kernel
theorem dX12_learns_68 : decode cX12_learns 68 = .ok (.aload_n 0, 1) := by decide +kernel
theorem dX12_learns_69 : decode cX12_learns 69 = .ok (.getfield 129, 3) := by decide +kernel
theorem dX12_learns_72 : decode cX12_learns 72 = .ok (.if_icmp .ge 97, 3) := by decide +kernel
theorem dX12_learns_169 : decode cX12_learns 169 = .ok (.iload_n 2, 1) := by decide +kernel
theorem dX12_learns_170 : decode cX12_learns 170 = .ok (.ireturn, 1) := by decide +kernel
theorem dX12_settlesLost_0 : decode cX12_settlesLost 0 = .ok (.iconst 0, 1) := by decide +kernel
theorem dX12_settlesLost_1 : decode cX12_settlesLost 1 = .ok (.istore_n 1, 1) := by decide +kernel
theorem dX12_settlesLost_2 : decode cX12_settlesLost 2 = .ok (.iload_n 1, 1) := by decide +kernel
theorem dX12_settlesLost_3 : decode cX12_settlesLost 3 = .ok (.aload_n 0, 1) := by decide +kernel
theorem dX12_settlesLost_4 : decode cX12_settlesLost 4 = .ok (.getfield 246, 3) := by decide +kernel
theorem dX12_settlesLost_7 : decode cX12_settlesLost 7 = .ok (.if_icmp .ge 84, 3) := by decide +kernel
theorem dX12_settlesLost_91 : decode cX12_settlesLost 91 = .ok (.return_, 1) := by decide +kernel
theorem dX12_surveys_0 : decode cX12_surveys 0 = .ok (.aload_n 0, 1) := by decide +kernel
theorem dX12_surveys_1 : decode cX12_surveys 1 = .ok (.invokevirtual 173, 3) := by decide +kernel
theorem dX12_surveys_4 : decode cX12_surveys 4 = .ok (.iconst 0, 1) := by decide +kernel
theorem dX12_surveys_5 : decode cX12_surveys 5 = .ok (.istore_n 1, 1) := by decide +kernel
theorem dX12_surveys_6 : decode cX12_surveys 6 = .ok (.iload_n 1, 1) := by decide +kernel
theorem dX12_surveys_7 : decode cX12_surveys 7 = .ok (.bipush 40, 2) := by decide +kernel
theorem dX12_surveys_9 : decode cX12_surveys 9 = .ok (.if_icmp .ge 31, 3) := by decide +kernel
theorem dX12_surveys_12 : decode cX12_surveys 12 = .ok (.aload_n 0, 1) := by decide +kernel
theorem dX12_surveys_13 : decode cX12_surveys 13 = .ok (.iload_n 1, 1) := by decide +kernel
theorem dX12_surveys_14 : decode cX12_surveys 14 = .ok (.invokevirtual 176, 3) := by decide +kernel
theorem dX12_surveys_17 : decode cX12_surveys 17 = .ok (.ifCond .eq 17, 3) := by decide +kernel
theorem dX12_surveys_34 : decode cX12_surveys 34 = .ok (.iinc 1 1, 3) := by decide +kernel
theorem dX12_surveys_37 : decode cX12_surveys 37 = .ok (.goto (-31), 3) := by decide +kernel
theorem dX12_surveys_40 : decode cX12_surveys 40 = .ok (.return_, 1) := by decide +kernel
theorem dX12_tick_0 : decode cX12_tick 0 = .ok (.aload_n 0, 1) := by decide +kernel
theorem dX12_tick_1 : decode cX12_tick 1 = .ok (.iload_n 1, 1) := by decide +kernel
theorem dX12_tick_2 : decode cX12_tick 2 = .ok (.iconst 1, 1) := by decide +kernel
theorem dX12_tick_3 : decode cX12_tick 3 = .ok (.bipush 30, 2) := by decide +kernel
theorem dX12_tick_5 : decode cX12_tick 5 = .ok (.invokestatic 132, 3) := by decide +kernel
theorem dX12_tick_8 : decode cX12_tick 8 = .ok (.ifCond .eq 7, 3) := by decide +kernel
theorem dX12_tick_11 : decode cX12_tick 11 = .ok (.iconst 0, 1) := by decide +kernel
theorem dX12_tick_12 : decode cX12_tick 12 = .ok (.goto 4, 3) := by decide +kernel
theorem dX12_tick_15 : decode cX12_tick 15 = .ok (.iconst 1, 1) := by decide +kernel
theorem dX12_tick_16 : decode cX12_tick 16 = .ok (.invokevirtual 140, 3) := by decide +kernel
theorem dX12_tick_19 : decode cX12_tick 19 = .ok (.ifCond .ne 5, 3) := by decide +kernel
theorem dX12_tick_22 : decode cX12_tick 22 = .ok (.iconst 0, 1) := by decide +kernel
theorem dX12_tick_23 : decode cX12_tick 23 = .ok (.ireturn, 1) := by decide +kernel
theorem dX12_tick_24 : decode cX12_tick 24 = .ok (.iconst 0, 1) := by decide +kernel
theorem dX12_tick_25 : decode cX12_tick 25 = .ok (.istore_n 2, 1) := by decide +kernel
theorem dX12_tick_26 : decode cX12_tick 26 = .ok (.iload_n 2, 1) := by decide +kernel
theorem dX12_tick_27 : decode cX12_tick 27 = .ok (.iload_n 1, 1) := by decide +kernel
theorem dX12_tick_28 : decode cX12_tick 28 = .ok (.if_icmp .ge 13, 3) := by decide +kernel
theorem dX12_tick_31 : decode cX12_tick 31 = .ok (.aload_n 0, 1) := by decide +kernel
theorem dX12_tick_32 : decode cX12_tick 32 = .ok (.invokevirtual 296, 3) := by decide +kernel
theorem dX12_tick_35 : decode cX12_tick 35 = .ok (.iinc 2 1, 3) := by decide +kernel
theorem dX12_tick_38 : decode cX12_tick 38 = .ok (.goto (-12), 3) := by decide +kernel
theorem dX12_tick_41 : decode cX12_tick 41 = .ok (.aload_n 0, 1) := by decide +kernel
theorem dX12_tick_42 : decode cX12_tick 42 = .ok (.getfield 233, 3) := by decide +kernel
theorem dX12_tick_45 : decode cX12_tick 45 = .ok (.ireturn, 1) := by decide +kernel
theorem u_1281 : Cond.fieldLink RX12 233 "DrystoneSimnetModel" "ticks" "I" ∈ gU := gm (i := 1281) (by decide +kernel) (by decide +kernel)
theorem u_1431 : Cond.methodLink RX12 173 yX12_grows ∈ gU := gm (i := 1431) (by decide +kernel) (by decide +kernel)
theorem u_1433 : Cond.instanceMethod yX12_grows ∈ gU := gm (i := 1433) (by decide +kernel) (by decide +kernel)
theorem u_1434 : Cond.code yX12_grows cX12_grows 6 none ∈ gU := gm (i := 1434) (by decide +kernel) (by decide +kernel)
theorem u_1455 : Cond.methodLink RX12 186 yX12_surveys ∈ gU := gm (i := 1455) (by decide +kernel) (by decide +kernel)
theorem u_1457 : Cond.instanceMethod yX12_surveys ∈ gU := gm (i := 1457) (by decide +kernel) (by decide +kernel)
theorem u_1458 : Cond.code yX12_surveys cX12_surveys 2 none ∈ gU := gm (i := 1458) (by decide +kernel) (by decide +kernel)
theorem u_1541 : Cond.methodLink RX12 263 yX12_settlesLost ∈ gU := gm (i := 1541) (by decide +kernel) (by decide +kernel)
theorem u_1543 : Cond.instanceMethod yX12_settlesLost ∈ gU := gm (i := 1543) (by decide +kernel) (by decide +kernel)
theorem u_1544 : Cond.code yX12_settlesLost cX12_settlesLost 4 none ∈ gU := gm (i := 1544) (by decide +kernel) (by decide +kernel)
theorem u_1549 : Cond.methodLink RX12 296 yX12_goesOn ∈ gU := gm (i := 1549) (by decide +kernel) (by decide +kernel)
theorem u_1551 : Cond.instanceMethod yX12_goesOn ∈ gU := gm (i := 1551) (by decide +kernel) (by decide +kernel)
theorem u_1552 : Cond.code yX12_goesOn cX12_goesOn 4 none ∈ gU := gm (i := 1552) (by decide +kernel) (by decide +kernel)
theorem u_1553 : Cond.methodLink RX12 290 yX12_learns ∈ gU := gm (i := 1553) (by decide +kernel) (by decide +kernel)
theorem u_1555 : Cond.instanceMethod yX12_learns ∈ gU := gm (i := 1555) (by decide +kernel) (by decide +kernel)
theorem u_1556 : Cond.code yX12_learns cX12_learns 5 (some .boolean) ∈ gU := gm (i := 1556) (by decide +kernel) (by decide +kernel)
theorem v_48 : Cond.selects RX12 yX12_grows yX12_grows ∈ gU := gp (i := 48) (q := (yX12_grows, 47)) (by decide +kernel) (by decide +kernel)
theorem v_52 : Cond.selects RX12 yX12_surveys yX12_surveys ∈ gU := gp (i := 52) (q := (yX12_surveys, 47)) (by decide +kernel) (by decide +kernel)
theorem v_65 : Cond.selects RX12 yX12_settlesLost yX12_settlesLost ∈ gU := gp (i := 65) (q := (yX12_settlesLost, 47)) (by decide +kernel) (by decide +kernel)
theorem v_66 : Cond.selects RX12 yX12_goesOn yX12_goesOn ∈ gU := gp (i := 66) (q := (yX12_goesOn, 47)) (by decide +kernel) (by decide +kernel)
theorem v_67 : Cond.selects RX12 yX12_learns yX12_learns ∈ gU := gp (i := 67) (q := (yX12_learns, 47)) (by decide +kernel) (by decide +kernel)
set_option maxHeartbeats 4000000 in
set_option maxRecDepth 100000 in
theorem c_X12_box (l : Launch) (dC : Nat → ClassId) (dI : Nat → Nat → Nat) (sz : Nat) (m0 : Nat) (kd : Nat) (gw : Nat) (fa : Nat) (gM : Nat → Nat) (th : Int32) (ck : ClassId) (cg : ClassId) (a0 : Int32) : Met l yX12_box (Cond.code yX12_box cX12_box 2 (some .int) :: gU) ({ frames := 1, cells := 0, slots := 0, locals := 22 }) (gP dC dI sz [(m0, .inr (12, mM kd gw fa gM 0 0 0 0 0 0 0 0 th)), (kd, .inl (ck, 10, .inl (fun _ => 0))), (gw, .inl (cg, 10, .inl (fun _ => 0)))] [(ck, .int), (cg, .int)] [.ref m0, .int a0]) (va_Qi (fun (r : Int32) (u9 : Int32 × Int32) => (¬ gIs a0 0 2 = 0 → r = 0 ∧ u9.2 = 0) ∧ (gIs a0 0 2 = 0 → u9.2 = 1)) (fun (u9 : Int32 × Int32) (t9 : State) => va_P (dC, dI) vwCl [(m0, .inr (12, mM kd gw fa gM u9.1 0 0 0 0 0 0 0 u9.2))] t9.heap ∧ va_K (dC, dI) vwCl [] t9 ∧ va_D (va_A [(m0, .inr (12, mM kd gw fa gM 0 0 0 0 0 0 0 0 th)), (kd, .inl (ck, 10, .inl (fun _ => 0))), (gw, .inl (cg, 10, .inl (fun _ => 0)))] sz) [(m0, .inr (12, mM kd gw fa gM u9.1 0 0 0 0 0 0 0 u9.2))]) (va_A [(m0, .inr (12, mM kd gw fa gM 0 0 0 0 0 0 0 0 th)), (kd, .inl (ck, 10, .inl (fun _ => 0))), (gw, .inl (cg, 10, .inl (fun _ => 0)))] sz)) 0 0 (va_A [(m0, .inr (12, mM kd gw fa gM 0 0 0 0 0 0 0 0 th)), (kd, .inl (ck, 10, .inl (fun _ => 0))), (gw, .inl (cg, 10, .inl (fun _ => 0)))] sz) := by
  refine Met.ofW (cc := cX12_box) (maxL := 2) (ret := (some .int)) (by decide) rfl ?_
  intro p e s m args below meth c s₁ B hml hv
  obtain ⟨rfl, hsz, hP, hK, hD0, hE⟩ := hv
  have hx := B.exec
  have hb := B.bytes
  have hr := B.returns
  have hts0 := atoms_spec (ws := Cond.code yX12_box cX12_box 2 (some .int) :: gU) B.pre
  have hts : ∀ w ∈ gU, w.before _ s = true := fun w h => hts0 w (List.mem_cons_of_mem _ h)
  have hown : s.vm.findClass RX12 = some m.cls := findClass_of_methodNamed B.named
  have hlocks := B.notSynchronized
  subst hsz
  have hD := hD0.self (sz := s.heap.size)
  generalize hAe : va_A [(m0, .inr (12, mM kd gw fa gM 0 0 0 0 0 0 0 0 th)), (kd, .inl (ck, 10, .inl (fun _ => 0))), (gw, .inl (cg, 10, .inl (fun _ => 0)))] s.heap.size = A at hD ⊢
  have hA : ∀ q : Nat, s.heap.size ≤ q → A q := fun q h => by rw [← hAe]; exact Or.inr h
  have hS : va_S A s.heap s.heap [] := va_S.rf
  have hP : va_P (dC, dI) vwCl [(m0, .inr (12, mM kd gw fa gM 0 0 0 0 0 0 0 0 th)), (kd, .inl (ck, 10, .inl (fun _ => 0))), (gw, .inl (cg, 10, .inl (fun _ => 0)))] s.heap := hP
  have hl := lv_entry ([.ref m0, .int a0]) (n := 2) (Nat.le_of_ble_eq_true rfl)
  rw [lg_entry_eq]
  generalize (lg_sl ([.ref m0, .int a0]) ++ List.replicate (2 - (lg_sl ([.ref m0, .int a0])).length) Slot.unset).toArray = ls at hl ⊢
  have hl : lv_has ls 2 [(0, .ref m0), (1, .int a0)] := hl
  refine lv_aload_n hx hb dX12_box_0 rfl (lv_at hl 0 rfl) ?_
  refine lv_iload_n hx hb dX12_box_1 rfl (lv_at hl 1 rfl) ?_
  refine lv_iconst (v := 0) hx hb dX12_box_2 (by decide) ?_
  refine lv_iconst (v := 2) hx hb dX12_box_3 (by decide) ?_
  have hPc := hP.sub (ws' := []) [] rfl
  have hDc := hD.sub (ws' := []) [] (by decide) rfl
  have hKc := hK.sub (tys' := []) [] rfl
  have hFc := roF hS hA
  refine va_calli (va_runS (As := [.int a0, .int 0, .int 2]) (rest := [.ref m0]) ⟨hx, hb, hml, hown, hts⟩ (c_X12_isIn l dC dI s.heap.size a0 0 2) (va_cwS 3 hts (gSt u_1400 u_1401 u_14 u_1402) rfl rfl rfl (by decide +kernel) ⟨Nat.le_of_ble_eq_true rfl, Nat.le_of_ble_eq_true rfl⟩) ⟨gP_blind, gP_call hPc hKc hDc hE⟩ rfl rfl hl.1 rfl (lv_room (Nat.le_of_ble_eq_true rfl)) dX12_box_4 ⟨(Nat.le_of_ble_eq_true rfl), (Nat.le_of_ble_eq_true rfl)⟩) hS (fun q _ h => hFc q h) hFc (fun r952 u9 t9 H951 locs ht hvm hw hB hz1 hk1 hS => ?_)
  have hP := roP hP hk1
  subst hw
  refine lv_if_ne (tgt := 14) hx hb dX12_box_7 (by decide) (fun h1 => ?_) (fun h1 => ?_)
  · refine lv_aload_n hx hb dX12_box_14 rfl (lv_at hl 0 rfl) ?_
    refine va_get (D := (dC, dI)) (ci := 12) (v := .int 0) (C := RX12) (T := TX12) (N := 47) hx hb hts gX12 hown hK hP 0 rfl rfl 0 (by decide) (hts _ u_1250) (fun _ h9 => h9) rfl dX12_box_15 ?_
    refine lv_bipush (v := 10) hx hb dX12_box_18 (by decide) ?_
    refine lv_icmp_ne (tgt := 27) hx hb dX12_box_20 (by decide) (fun _ => ?_) (fun h9 => absurd h9 (by decide))
    refine lv_iconst (v := 0) hx hb dX12_box_27 (by decide) ?_
    have hPc := hP.sub (ws' := [(m0, .inr (12, mM kd gw fa gM 0 0 0 0 0 0 0 0 th))]) [0] rfl
    have hDc := hD.sub (ws' := [(m0, .inr (12, mM kd gw fa gM 0 0 0 0 0 0 0 0 th))]) [0] (by decide) rfl
    have hKc := hK.sub (tys' := []) [] rfl
    have hFc := va_free (wc := [(m0, .inr (12, mM kd gw fa gM 0 0 0 0 0 0 0 0 th))]) hD hS hA [0] rfl
    refine va_calli (va_runV (As := [.int 0]) (rest := []) ⟨hx, hb, hml, hown, hts⟩ (c_X12_can l dC dI H951.size m0 kd gw fa gM th 0) (cwV 1 hts (gV u_1403 u_1405 v_44 u_14 u_1406) rfl rfl rfl (by decide +kernel) ⟨Nat.le_of_ble_eq_true rfl, Nat.le_of_ble_eq_true rfl⟩) ⟨gP_blind, va_recv hKc hPc (ci := 12) (q0 := 0) rfl rfl, gP_call hPc hKc hDc hE⟩ rfl rfl hl.1 rfl (lv_room (Nat.le_of_ble_eq_true rfl)) dX12_box_28 ⟨(Nat.le_of_ble_eq_true rfl), (Nat.le_of_ble_eq_true rfl)⟩) hS (fun q _ h => hFc q h) hFc (fun r954 u9 t9 H953 locs ht hvm hw hB hz1 hk1 hS => ?_)
    obtain ⟨hP1, hK1, hD1⟩ := hB
    rw [ht] at hP1
    have hK1 := va_K.moved hvm.symm hK1
    obtain ⟨hP, hD⟩ := va_join (wr := [(kd, .inl (ck, 10, .inl (fun _ => 0))), (gw, .inl (cg, 10, .inl (fun _ => 0)))]) (w1 := [(m0, .inr (12, mM kd gw fa gM 0 0 0 0 0 0 0 0 0))]) hP hD [0] [1, 2] rfl rfl (by decide) (by decide) hk1 hFc hP1 hD1
    have hK := (hK.sub (tys' := [(ck, .int), (cg, .int)]) [0, 1] rfl).app hK1
    have hK : va_K (dC, dI) vwCl [(ck, .int), (cg, .int)] s := hK
    have hP : va_P (dC, dI) vwCl [(kd, .inl (ck, 10, .inl (fun _ => 0))), (gw, .inl (cg, 10, .inl (fun _ => 0))), (m0, .inr (12, mM kd gw fa gM 0 0 0 0 0 0 0 0 0))] H953 := hP
    have hD : va_D A [(kd, .inl (ck, 10, .inl (fun _ => 0))), (gw, .inl (cg, 10, .inl (fun _ => 0))), (m0, .inr (12, mM kd gw fa gM 0 0 0 0 0 0 0 0 0))] := hD
    subst hw
    rw [show gCan 0 = 1 from by decide]
    refine lv_if_ne (tgt := 36) hx hb dX12_box_31 (by decide) (fun _ => ?_) (fun h9 => absurd h9 (by decide))
    refine lv_aload_n hx hb dX12_box_36 rfl (lv_at hl 0 rfl) ?_
    refine va_get (D := (dC, dI)) (ci := 12) (v := .ref kd) (C := RX12) (T := TX12) (N := 47) hx hb hts gX12 hown hK hP 2 rfl rfl 1 (by decide) (hts _ u_1251) (fun _ h9 => h9) rfl dX12_box_37 ?_
    refine lv_aload_n hx hb dX12_box_40 rfl (lv_at hl 0 rfl) ?_
    refine va_get (D := (dC, dI)) (ci := 12) (v := .int 0) (C := RX12) (T := TX12) (N := 47) hx hb hts gX12 hown hK hP 2 rfl rfl 0 (by decide) (hts _ u_1250) (fun _ h9 => h9) rfl dX12_box_41 ?_
    refine lv_iload_n hx hb dX12_box_44 rfl (lv_at hl 1 rfl) ?_
    refine va_iast hx hb hK hP hD hS 0 0 rfl rfl (by unfold vp_in; decide) dX12_box_45 (fun H955 locs hP hD hS => ?_)
    generalize hff956 : upd (fun _ => 0) (0 : Int32).toNatClampNeg a0 = f956 at hP hD
    have hP : va_P (dC, dI) vwCl [(kd, .inl (ck, 10, .inl f956)), (gw, .inl (cg, 10, .inl (fun _ => 0))), (m0, .inr (12, mM kd gw fa gM 0 0 0 0 0 0 0 0 0))] H955 := hP
    have hD : va_D A [(kd, .inl (ck, 10, .inl f956)), (gw, .inl (cg, 10, .inl (fun _ => 0))), (m0, .inr (12, mM kd gw fa gM 0 0 0 0 0 0 0 0 0))] := hD
    refine lv_aload_n hx hb dX12_box_46 rfl (lv_at hl 0 rfl) ?_
    refine va_get (D := (dC, dI)) (ci := 12) (v := .ref gw) (C := RX12) (T := TX12) (N := 47) hx hb hts gX12 hown hK hP 2 rfl rfl 12 (by decide) (hts _ u_1262) (fun _ h9 => h9) rfl dX12_box_47 ?_
    refine lv_aload_n hx hb dX12_box_50 rfl (lv_at hl 0 rfl) ?_
    refine va_get (D := (dC, dI)) (ci := 12) (v := .int 0) (C := RX12) (T := TX12) (N := 47) hx hb hts gX12 hown hK hP 2 rfl rfl 0 (by decide) (hts _ u_1250) (fun _ h9 => h9) rfl dX12_box_51 ?_
    refine lv_iconst (v := (-1)) hx hb dX12_box_54 (by decide) ?_
    refine va_iast hx hb hK hP hD hS 1 1 rfl rfl (by unfold vp_in; decide) dX12_box_55 (fun H957 locs hP hD hS => ?_)
    generalize hff958 : upd (fun _ => 0) (0 : Int32).toNatClampNeg (-1) = f958 at hP hD
    have hP : va_P (dC, dI) vwCl [(kd, .inl (ck, 10, .inl f956)), (gw, .inl (cg, 10, .inl f958)), (m0, .inr (12, mM kd gw fa gM 0 0 0 0 0 0 0 0 0))] H957 := hP
    have hD : va_D A [(kd, .inl (ck, 10, .inl f956)), (gw, .inl (cg, 10, .inl f958)), (m0, .inr (12, mM kd gw fa gM 0 0 0 0 0 0 0 0 0))] := hD
    refine lv_aload_n hx hb dX12_box_56 rfl (lv_at hl 0 rfl) ?_
    refine lv_dup hx hb dX12_box_57 rfl ?_
    refine va_get (D := (dC, dI)) (ci := 12) (v := .int 0) (C := RX12) (T := TX12) (N := 47) hx hb hts gX12 hown hK hP 2 rfl rfl 0 (by decide) (hts _ u_1250) (fun _ h9 => h9) rfl dX12_box_58 ?_
    refine lv_iconst (v := 1) hx hb dX12_box_61 (by decide) ?_
    refine lv_iadd hx hb dX12_box_62 ?_
    refine lv_topi (fun z959 ez959 => ?_)
    obtain rfl : z959 = 1 := ez959.trans (by decide)
    refine va_put (D := (dC, dI)) (ci := 12) (v := .int 1) (ty := .int) (C := RX12) (T := TX12) (N := 47) hx hb hts gX12 tyX12 tyX12_ok nmX12 hown hK hP hD hS 2 rfl rfl 0 (by decide) (hts _ u_1250) (fun _ h9 => h9) rfl (by decide +kernel) rfl rfl (Nat.le_of_ble_eq_true rfl) dX12_box_63 (fun H960 locs hP hD hS => ?_)
    have hP : va_P (dC, dI) vwCl [(kd, .inl (ck, 10, .inl f956)), (gw, .inl (cg, 10, .inl f958)), (m0, .inr (12, mM kd gw fa gM 1 0 0 0 0 0 0 0 0))] H960 := hP
    have hD : va_D A [(kd, .inl (ck, 10, .inl f956)), (gw, .inl (cg, 10, .inl f958)), (m0, .inr (12, mM kd gw fa gM 1 0 0 0 0 0 0 0 0))] := hD
    refine lv_aload_n hx hb dX12_box_66 rfl (lv_at hl 0 rfl) ?_
    refine va_get (D := (dC, dI)) (ci := 12) (v := .int 1) (C := RX12) (T := TX12) (N := 47) hx hb hts gX12 hown hK hP 2 rfl rfl 0 (by decide) (hts _ u_1250) (fun _ h9 => h9) rfl dX12_box_67 ?_
    refine lv_iconst (v := 1) hx hb dX12_box_70 (by decide) ?_
    refine lv_isub hx hb dX12_box_71 ?_
    refine lv_topi (fun z961 ez961 => ?_)
    obtain rfl : z961 = 0 := ez961.trans (by decide)
    have hP := hP.sub (ws' := [(m0, .inr (12, mM kd gw fa gM 1 0 0 0 0 0 0 0 0))]) [2] rfl
    have hD := hD.sub (ws' := [(m0, .inr (12, mM kd gw fa gM 1 0 0 0 0 0 0 0 0))]) [2] (by decide) rfl
    have hK := hK.sub (tys' := []) [] rfl
    refine W.widen (k := 0) (n := 0) (Nat.le_of_ble_eq_true rfl) (Nat.le_of_ble_eq_true rfl) ?_
    exact W.iret (v := 0) hx hb hr (fun t ht hW => ⟨⟨0, (1, 0), rfl, ⟨fun _ => ⟨rfl, rfl⟩, fun q => absurd q h1⟩, ⟨by rw [ht]; exact hP, va_K.moved hW.alike hK, hD⟩⟩, hS.F ht⟩) hS.2.2 dX12_box_72
  · refine lv_iconst (v := 1) hx hb dX12_box_10 (by decide) ?_
    refine lv_goto (tgt := 28) hx hb dX12_box_11 (by decide) ?_
    have hPc := hP.sub (ws' := [(m0, .inr (12, mM kd gw fa gM 0 0 0 0 0 0 0 0 th))]) [0] rfl
    have hDc := hD.sub (ws' := [(m0, .inr (12, mM kd gw fa gM 0 0 0 0 0 0 0 0 th))]) [0] (by decide) rfl
    have hKc := hK.sub (tys' := []) [] rfl
    have hFc := va_free (wc := [(m0, .inr (12, mM kd gw fa gM 0 0 0 0 0 0 0 0 th))]) hD hS hA [0] rfl
    refine va_calli (va_runV (As := [.int 1]) (rest := []) ⟨hx, hb, hml, hown, hts⟩ (c_X12_can l dC dI H951.size m0 kd gw fa gM th 1) (cwV 1 hts (gV u_1403 u_1405 v_44 u_14 u_1406) rfl rfl rfl (by decide +kernel) ⟨Nat.le_of_ble_eq_true rfl, Nat.le_of_ble_eq_true rfl⟩) ⟨gP_blind, va_recv hKc hPc (ci := 12) (q0 := 0) rfl rfl, gP_call hPc hKc hDc hE⟩ rfl rfl hl.1 rfl (lv_room (Nat.le_of_ble_eq_true rfl)) dX12_box_28 ⟨(Nat.le_of_ble_eq_true rfl), (Nat.le_of_ble_eq_true rfl)⟩) hS (fun q _ h => hFc q h) hFc (fun r963 u9 t9 H962 locs ht hvm hw hB hz1 hk1 hS => ?_)
    obtain ⟨hP1, hK1, hD1⟩ := hB
    rw [ht] at hP1
    have hK1 := va_K.moved hvm.symm hK1
    obtain ⟨hP, hD⟩ := va_join (wr := [(kd, .inl (ck, 10, .inl (fun _ => 0))), (gw, .inl (cg, 10, .inl (fun _ => 0)))]) (w1 := [(m0, .inr (12, mM kd gw fa gM 0 0 0 0 0 0 0 0 1))]) hP hD [0] [1, 2] rfl rfl (by decide) (by decide) hk1 hFc hP1 hD1
    have hK := (hK.sub (tys' := [(ck, .int), (cg, .int)]) [0, 1] rfl).app hK1
    have hK : va_K (dC, dI) vwCl [(ck, .int), (cg, .int)] s := hK
    have hP : va_P (dC, dI) vwCl [(kd, .inl (ck, 10, .inl (fun _ => 0))), (gw, .inl (cg, 10, .inl (fun _ => 0))), (m0, .inr (12, mM kd gw fa gM 0 0 0 0 0 0 0 0 1))] H962 := hP
    have hD : va_D A [(kd, .inl (ck, 10, .inl (fun _ => 0))), (gw, .inl (cg, 10, .inl (fun _ => 0))), (m0, .inr (12, mM kd gw fa gM 0 0 0 0 0 0 0 0 1))] := hD
    subst hw
    rw [show gCan 1 = 0 from by decide]
    refine lv_if_ne (tgt := 36) hx hb dX12_box_31 (by decide) (fun h9 => absurd (by decide) h9) (fun _ => ?_)
    refine lv_iconst (v := 0) hx hb dX12_box_34 (by decide) ?_
    have hP := hP.sub (ws' := [(m0, .inr (12, mM kd gw fa gM 0 0 0 0 0 0 0 0 1))]) [2] rfl
    have hD := hD.sub (ws' := [(m0, .inr (12, mM kd gw fa gM 0 0 0 0 0 0 0 0 1))]) [2] (by decide) rfl
    have hK := hK.sub (tys' := []) [] rfl
    refine W.widen (k := 0) (n := 0) (Nat.le_of_ble_eq_true rfl) (Nat.le_of_ble_eq_true rfl) ?_
    exact W.iret (v := 0) hx hb hr (fun t ht hW => ⟨⟨0, (0, 1), rfl, ⟨fun q => absurd h1 q, fun _ => rfl⟩, ⟨by rw [ht]; exact hP, va_K.moved hW.alike hK, hD⟩⟩, hS.F ht⟩) hS.2.2 dX12_box_35
set_option maxHeartbeats 4000000 in
set_option maxRecDepth 100000 in
theorem c_X12_grows (l : Launch) (dC : Nat → ClassId) (dI : Nat → Nat → Nat) (sz : Nat) (m0 : Nat) (kd : Nat) (gw : Nat) (fa : Nat) (gM : Nat → Nat) (th : Int32) (tk : Int32) (cf : ClassId) (fF : Nat → Int32) : Met l yX12_grows (Cond.code yX12_grows cX12_grows 6 none :: gU) ({ frames := 0, cells := 0, slots := 0, locals := 0 }) (gP dC dI sz [(m0, .inr (12, mM kd gw fa gM 0 0 tk 0 0 0 0 0 th)), (fa, .inl (cf, 10, .inl fF))] [(cf, .int)] [.ref m0]) (va_Qv (fun (_ : Unit) => True) (fun (_ : Unit) (t9 : State) => ∃ (fF2 : Nat → Int32), va_P (dC, dI) vwCl [(m0, .inr (12, mM kd gw fa gM 0 0 tk 0 0 0 0 0 th)), (fa, .inl (cf, 10, .inl fF2))] t9.heap ∧ va_K (dC, dI) vwCl [(cf, .int)] t9 ∧ va_D (va_A [(m0, .inr (12, mM kd gw fa gM 0 0 tk 0 0 0 0 0 th)), (fa, .inl (cf, 10, .inl fF))] sz) [(m0, .inr (12, mM kd gw fa gM 0 0 tk 0 0 0 0 0 th)), (fa, .inl (cf, 10, .inl fF2))]) (va_A [(m0, .inr (12, mM kd gw fa gM 0 0 tk 0 0 0 0 0 th)), (fa, .inl (cf, 10, .inl fF))] sz)) 0 0 (va_A [(m0, .inr (12, mM kd gw fa gM 0 0 tk 0 0 0 0 0 th)), (fa, .inl (cf, 10, .inl fF))] sz) := by
  refine Met.ofW (cc := cX12_grows) (maxL := 6) (ret := none) (by decide) rfl ?_
  intro p e s m args below meth c s₁ B hml hv
  obtain ⟨rfl, hsz, hP, hK, hD0, hE⟩ := hv
  have hx := B.exec
  have hb := B.bytes
  have hr := B.returns
  have hts0 := atoms_spec (ws := Cond.code yX12_grows cX12_grows 6 none :: gU) B.pre
  have hts : ∀ w ∈ gU, w.before _ s = true := fun w h => hts0 w (List.mem_cons_of_mem _ h)
  have hown : s.vm.findClass RX12 = some m.cls := findClass_of_methodNamed B.named
  have hlocks := B.notSynchronized
  subst hsz
  have hD := hD0.self (sz := s.heap.size)
  generalize hAe : va_A [(m0, .inr (12, mM kd gw fa gM 0 0 tk 0 0 0 0 0 th)), (fa, .inl (cf, 10, .inl fF))] s.heap.size = A at hD ⊢
  have hA : ∀ q : Nat, s.heap.size ≤ q → A q := fun q h => by rw [← hAe]; exact Or.inr h
  have hS : va_S A s.heap s.heap [] := va_S.rf
  have hP : va_P (dC, dI) vwCl [(m0, .inr (12, mM kd gw fa gM 0 0 tk 0 0 0 0 0 th)), (fa, .inl (cf, 10, .inl fF))] s.heap := hP
  have hl := lv_entry ([.ref m0]) (n := 6) (Nat.le_of_ble_eq_true rfl)
  rw [lg_entry_eq]
  generalize (lg_sl ([.ref m0]) ++ List.replicate (6 - (lg_sl ([.ref m0])).length) Slot.unset).toArray = ls at hl ⊢
  have hl : lv_has ls 6 [(0, .ref m0)] := hl
  refine lv_iconst (v := 0) hx hb dX12_grows_0 (by decide) ?_
  refine lv_istore_n (lv' := [(1, .int 0), (0, .ref m0)]) hx hb dX12_grows_1 rfl hl (by decide) rfl (fun ls hl => ?_)
  refine lv_iload_n hx hb dX12_grows_2 rfl (lv_at hl 0 rfl) ?_
  refine lv_bipush (v := 10) hx hb dX12_grows_3 (by decide) ?_
  refine lv_icmp_ge (tgt := 22) hx hb dX12_grows_5 (by decide) (fun h9 => absurd h9 (by decide)) (fun _ => ?_)
  refine lv_aload_n hx hb dX12_grows_8 rfl (lv_at hl 1 rfl) ?_
  refine va_get (D := (dC, dI)) (ci := 12) (v := .ref fa) (C := RX12) (T := TX12) (N := 47) hx hb hts gX12 hown hK hP 0 rfl rfl 7 (by decide) (hts _ u_1257) (fun _ h9 => h9) rfl dX12_grows_9 ?_
  refine lv_iload_n hx hb dX12_grows_12 rfl (lv_at hl 0 rfl) ?_
  refine lv_bipush (v := 100) hx hb dX12_grows_13 (by decide) ?_
  refine va_iast hx hb hK hP hD hS 1 0 rfl rfl (by unfold vp_in; decide) dX12_grows_15 (fun H964 locs hP hD hS => ?_)
  generalize hff965 : upd fF (0 : Int32).toNatClampNeg 100 = f965 at hP hD
  have hP : va_P (dC, dI) vwCl [(m0, .inr (12, mM kd gw fa gM 0 0 tk 0 0 0 0 0 th)), (fa, .inl (cf, 10, .inl f965))] H964 := hP
  have hD : va_D A [(m0, .inr (12, mM kd gw fa gM 0 0 tk 0 0 0 0 0 th)), (fa, .inl (cf, 10, .inl f965))] := hD
  refine lv_iinc (v := 1) (lv' := [(1, .int 1), (0, .ref m0)]) hx hb dX12_grows_16 hl (k := 0) rfl (by decide) (by decide) rfl (fun ls hl => ?_)
  refine lv_goto (tgt := 2) hx hb dX12_grows_19 (by decide) ?_
  refine lv_iload_n hx hb dX12_grows_2 rfl (lv_at hl 0 rfl) ?_
  refine lv_bipush (v := 10) hx hb dX12_grows_3 (by decide) ?_
  refine lv_icmp_ge (tgt := 22) hx hb dX12_grows_5 (by decide) (fun h9 => absurd h9 (by decide)) (fun _ => ?_)
  refine lv_aload_n hx hb dX12_grows_8 rfl (lv_at hl 1 rfl) ?_
  refine va_get (D := (dC, dI)) (ci := 12) (v := .ref fa) (C := RX12) (T := TX12) (N := 47) hx hb hts gX12 hown hK hP 0 rfl rfl 7 (by decide) (hts _ u_1257) (fun _ h9 => h9) rfl dX12_grows_9 ?_
  refine lv_iload_n hx hb dX12_grows_12 rfl (lv_at hl 0 rfl) ?_
  refine lv_bipush (v := 100) hx hb dX12_grows_13 (by decide) ?_
  refine va_iast hx hb hK hP hD hS 1 0 rfl rfl (by unfold vp_in; decide) dX12_grows_15 (fun H966 locs hP hD hS => ?_)
  generalize hff967 : upd f965 (1 : Int32).toNatClampNeg 100 = f967 at hP hD
  have hP : va_P (dC, dI) vwCl [(m0, .inr (12, mM kd gw fa gM 0 0 tk 0 0 0 0 0 th)), (fa, .inl (cf, 10, .inl f967))] H966 := hP
  have hD : va_D A [(m0, .inr (12, mM kd gw fa gM 0 0 tk 0 0 0 0 0 th)), (fa, .inl (cf, 10, .inl f967))] := hD
  refine lv_iinc (v := 2) (lv' := [(1, .int 2), (0, .ref m0)]) hx hb dX12_grows_16 hl (k := 0) rfl (by decide) (by decide) rfl (fun ls hl => ?_)
  refine lv_goto (tgt := 2) hx hb dX12_grows_19 (by decide) ?_
  refine lv_iload_n hx hb dX12_grows_2 rfl (lv_at hl 0 rfl) ?_
  refine lv_bipush (v := 10) hx hb dX12_grows_3 (by decide) ?_
  refine lv_icmp_ge (tgt := 22) hx hb dX12_grows_5 (by decide) (fun h9 => absurd h9 (by decide)) (fun _ => ?_)
  refine lv_aload_n hx hb dX12_grows_8 rfl (lv_at hl 1 rfl) ?_
  refine va_get (D := (dC, dI)) (ci := 12) (v := .ref fa) (C := RX12) (T := TX12) (N := 47) hx hb hts gX12 hown hK hP 0 rfl rfl 7 (by decide) (hts _ u_1257) (fun _ h9 => h9) rfl dX12_grows_9 ?_
  refine lv_iload_n hx hb dX12_grows_12 rfl (lv_at hl 0 rfl) ?_
  refine lv_bipush (v := 100) hx hb dX12_grows_13 (by decide) ?_
  refine va_iast hx hb hK hP hD hS 1 0 rfl rfl (by unfold vp_in; decide) dX12_grows_15 (fun H968 locs hP hD hS => ?_)
  generalize hff969 : upd f967 (2 : Int32).toNatClampNeg 100 = f969 at hP hD
  have hP : va_P (dC, dI) vwCl [(m0, .inr (12, mM kd gw fa gM 0 0 tk 0 0 0 0 0 th)), (fa, .inl (cf, 10, .inl f969))] H968 := hP
  have hD : va_D A [(m0, .inr (12, mM kd gw fa gM 0 0 tk 0 0 0 0 0 th)), (fa, .inl (cf, 10, .inl f969))] := hD
  refine lv_iinc (v := 3) (lv' := [(1, .int 3), (0, .ref m0)]) hx hb dX12_grows_16 hl (k := 0) rfl (by decide) (by decide) rfl (fun ls hl => ?_)
  refine lv_goto (tgt := 2) hx hb dX12_grows_19 (by decide) ?_
  refine lv_iload_n hx hb dX12_grows_2 rfl (lv_at hl 0 rfl) ?_
  refine lv_bipush (v := 10) hx hb dX12_grows_3 (by decide) ?_
  refine lv_icmp_ge (tgt := 22) hx hb dX12_grows_5 (by decide) (fun h9 => absurd h9 (by decide)) (fun _ => ?_)
  refine lv_aload_n hx hb dX12_grows_8 rfl (lv_at hl 1 rfl) ?_
  refine va_get (D := (dC, dI)) (ci := 12) (v := .ref fa) (C := RX12) (T := TX12) (N := 47) hx hb hts gX12 hown hK hP 0 rfl rfl 7 (by decide) (hts _ u_1257) (fun _ h9 => h9) rfl dX12_grows_9 ?_
  refine lv_iload_n hx hb dX12_grows_12 rfl (lv_at hl 0 rfl) ?_
  refine lv_bipush (v := 100) hx hb dX12_grows_13 (by decide) ?_
  refine va_iast hx hb hK hP hD hS 1 0 rfl rfl (by unfold vp_in; decide) dX12_grows_15 (fun H970 locs hP hD hS => ?_)
  generalize hff971 : upd f969 (3 : Int32).toNatClampNeg 100 = f971 at hP hD
  have hP : va_P (dC, dI) vwCl [(m0, .inr (12, mM kd gw fa gM 0 0 tk 0 0 0 0 0 th)), (fa, .inl (cf, 10, .inl f971))] H970 := hP
  have hD : va_D A [(m0, .inr (12, mM kd gw fa gM 0 0 tk 0 0 0 0 0 th)), (fa, .inl (cf, 10, .inl f971))] := hD
  refine lv_iinc (v := 4) (lv' := [(1, .int 4), (0, .ref m0)]) hx hb dX12_grows_16 hl (k := 0) rfl (by decide) (by decide) rfl (fun ls hl => ?_)
  refine lv_goto (tgt := 2) hx hb dX12_grows_19 (by decide) ?_
  refine lv_iload_n hx hb dX12_grows_2 rfl (lv_at hl 0 rfl) ?_
  refine lv_bipush (v := 10) hx hb dX12_grows_3 (by decide) ?_
  refine lv_icmp_ge (tgt := 22) hx hb dX12_grows_5 (by decide) (fun h9 => absurd h9 (by decide)) (fun _ => ?_)
  refine lv_aload_n hx hb dX12_grows_8 rfl (lv_at hl 1 rfl) ?_
  refine va_get (D := (dC, dI)) (ci := 12) (v := .ref fa) (C := RX12) (T := TX12) (N := 47) hx hb hts gX12 hown hK hP 0 rfl rfl 7 (by decide) (hts _ u_1257) (fun _ h9 => h9) rfl dX12_grows_9 ?_
  refine lv_iload_n hx hb dX12_grows_12 rfl (lv_at hl 0 rfl) ?_
  refine lv_bipush (v := 100) hx hb dX12_grows_13 (by decide) ?_
  refine va_iast hx hb hK hP hD hS 1 0 rfl rfl (by unfold vp_in; decide) dX12_grows_15 (fun H972 locs hP hD hS => ?_)
  generalize hff973 : upd f971 (4 : Int32).toNatClampNeg 100 = f973 at hP hD
  have hP : va_P (dC, dI) vwCl [(m0, .inr (12, mM kd gw fa gM 0 0 tk 0 0 0 0 0 th)), (fa, .inl (cf, 10, .inl f973))] H972 := hP
  have hD : va_D A [(m0, .inr (12, mM kd gw fa gM 0 0 tk 0 0 0 0 0 th)), (fa, .inl (cf, 10, .inl f973))] := hD
  refine lv_iinc (v := 5) (lv' := [(1, .int 5), (0, .ref m0)]) hx hb dX12_grows_16 hl (k := 0) rfl (by decide) (by decide) rfl (fun ls hl => ?_)
  refine lv_goto (tgt := 2) hx hb dX12_grows_19 (by decide) ?_
  refine lv_iload_n hx hb dX12_grows_2 rfl (lv_at hl 0 rfl) ?_
  refine lv_bipush (v := 10) hx hb dX12_grows_3 (by decide) ?_
  refine lv_icmp_ge (tgt := 22) hx hb dX12_grows_5 (by decide) (fun h9 => absurd h9 (by decide)) (fun _ => ?_)
  refine lv_aload_n hx hb dX12_grows_8 rfl (lv_at hl 1 rfl) ?_
  refine va_get (D := (dC, dI)) (ci := 12) (v := .ref fa) (C := RX12) (T := TX12) (N := 47) hx hb hts gX12 hown hK hP 0 rfl rfl 7 (by decide) (hts _ u_1257) (fun _ h9 => h9) rfl dX12_grows_9 ?_
  refine lv_iload_n hx hb dX12_grows_12 rfl (lv_at hl 0 rfl) ?_
  refine lv_bipush (v := 100) hx hb dX12_grows_13 (by decide) ?_
  refine va_iast hx hb hK hP hD hS 1 0 rfl rfl (by unfold vp_in; decide) dX12_grows_15 (fun H974 locs hP hD hS => ?_)
  generalize hff975 : upd f973 (5 : Int32).toNatClampNeg 100 = f975 at hP hD
  have hP : va_P (dC, dI) vwCl [(m0, .inr (12, mM kd gw fa gM 0 0 tk 0 0 0 0 0 th)), (fa, .inl (cf, 10, .inl f975))] H974 := hP
  have hD : va_D A [(m0, .inr (12, mM kd gw fa gM 0 0 tk 0 0 0 0 0 th)), (fa, .inl (cf, 10, .inl f975))] := hD
  refine lv_iinc (v := 6) (lv' := [(1, .int 6), (0, .ref m0)]) hx hb dX12_grows_16 hl (k := 0) rfl (by decide) (by decide) rfl (fun ls hl => ?_)
  refine lv_goto (tgt := 2) hx hb dX12_grows_19 (by decide) ?_
  refine lv_iload_n hx hb dX12_grows_2 rfl (lv_at hl 0 rfl) ?_
  refine lv_bipush (v := 10) hx hb dX12_grows_3 (by decide) ?_
  refine lv_icmp_ge (tgt := 22) hx hb dX12_grows_5 (by decide) (fun h9 => absurd h9 (by decide)) (fun _ => ?_)
  refine lv_aload_n hx hb dX12_grows_8 rfl (lv_at hl 1 rfl) ?_
  refine va_get (D := (dC, dI)) (ci := 12) (v := .ref fa) (C := RX12) (T := TX12) (N := 47) hx hb hts gX12 hown hK hP 0 rfl rfl 7 (by decide) (hts _ u_1257) (fun _ h9 => h9) rfl dX12_grows_9 ?_
  refine lv_iload_n hx hb dX12_grows_12 rfl (lv_at hl 0 rfl) ?_
  refine lv_bipush (v := 100) hx hb dX12_grows_13 (by decide) ?_
  refine va_iast hx hb hK hP hD hS 1 0 rfl rfl (by unfold vp_in; decide) dX12_grows_15 (fun H976 locs hP hD hS => ?_)
  generalize hff977 : upd f975 (6 : Int32).toNatClampNeg 100 = f977 at hP hD
  have hP : va_P (dC, dI) vwCl [(m0, .inr (12, mM kd gw fa gM 0 0 tk 0 0 0 0 0 th)), (fa, .inl (cf, 10, .inl f977))] H976 := hP
  have hD : va_D A [(m0, .inr (12, mM kd gw fa gM 0 0 tk 0 0 0 0 0 th)), (fa, .inl (cf, 10, .inl f977))] := hD
  refine lv_iinc (v := 7) (lv' := [(1, .int 7), (0, .ref m0)]) hx hb dX12_grows_16 hl (k := 0) rfl (by decide) (by decide) rfl (fun ls hl => ?_)
  refine lv_goto (tgt := 2) hx hb dX12_grows_19 (by decide) ?_
  refine lv_iload_n hx hb dX12_grows_2 rfl (lv_at hl 0 rfl) ?_
  refine lv_bipush (v := 10) hx hb dX12_grows_3 (by decide) ?_
  refine lv_icmp_ge (tgt := 22) hx hb dX12_grows_5 (by decide) (fun h9 => absurd h9 (by decide)) (fun _ => ?_)
  refine lv_aload_n hx hb dX12_grows_8 rfl (lv_at hl 1 rfl) ?_
  refine va_get (D := (dC, dI)) (ci := 12) (v := .ref fa) (C := RX12) (T := TX12) (N := 47) hx hb hts gX12 hown hK hP 0 rfl rfl 7 (by decide) (hts _ u_1257) (fun _ h9 => h9) rfl dX12_grows_9 ?_
  refine lv_iload_n hx hb dX12_grows_12 rfl (lv_at hl 0 rfl) ?_
  refine lv_bipush (v := 100) hx hb dX12_grows_13 (by decide) ?_
  refine va_iast hx hb hK hP hD hS 1 0 rfl rfl (by unfold vp_in; decide) dX12_grows_15 (fun H978 locs hP hD hS => ?_)
  generalize hff979 : upd f977 (7 : Int32).toNatClampNeg 100 = f979 at hP hD
  have hP : va_P (dC, dI) vwCl [(m0, .inr (12, mM kd gw fa gM 0 0 tk 0 0 0 0 0 th)), (fa, .inl (cf, 10, .inl f979))] H978 := hP
  have hD : va_D A [(m0, .inr (12, mM kd gw fa gM 0 0 tk 0 0 0 0 0 th)), (fa, .inl (cf, 10, .inl f979))] := hD
  refine lv_iinc (v := 8) (lv' := [(1, .int 8), (0, .ref m0)]) hx hb dX12_grows_16 hl (k := 0) rfl (by decide) (by decide) rfl (fun ls hl => ?_)
  refine lv_goto (tgt := 2) hx hb dX12_grows_19 (by decide) ?_
  refine lv_iload_n hx hb dX12_grows_2 rfl (lv_at hl 0 rfl) ?_
  refine lv_bipush (v := 10) hx hb dX12_grows_3 (by decide) ?_
  refine lv_icmp_ge (tgt := 22) hx hb dX12_grows_5 (by decide) (fun h9 => absurd h9 (by decide)) (fun _ => ?_)
  refine lv_aload_n hx hb dX12_grows_8 rfl (lv_at hl 1 rfl) ?_
  refine va_get (D := (dC, dI)) (ci := 12) (v := .ref fa) (C := RX12) (T := TX12) (N := 47) hx hb hts gX12 hown hK hP 0 rfl rfl 7 (by decide) (hts _ u_1257) (fun _ h9 => h9) rfl dX12_grows_9 ?_
  refine lv_iload_n hx hb dX12_grows_12 rfl (lv_at hl 0 rfl) ?_
  refine lv_bipush (v := 100) hx hb dX12_grows_13 (by decide) ?_
  refine va_iast hx hb hK hP hD hS 1 0 rfl rfl (by unfold vp_in; decide) dX12_grows_15 (fun H980 locs hP hD hS => ?_)
  generalize hff981 : upd f979 (8 : Int32).toNatClampNeg 100 = f981 at hP hD
  have hP : va_P (dC, dI) vwCl [(m0, .inr (12, mM kd gw fa gM 0 0 tk 0 0 0 0 0 th)), (fa, .inl (cf, 10, .inl f981))] H980 := hP
  have hD : va_D A [(m0, .inr (12, mM kd gw fa gM 0 0 tk 0 0 0 0 0 th)), (fa, .inl (cf, 10, .inl f981))] := hD
  refine lv_iinc (v := 9) (lv' := [(1, .int 9), (0, .ref m0)]) hx hb dX12_grows_16 hl (k := 0) rfl (by decide) (by decide) rfl (fun ls hl => ?_)
  refine lv_goto (tgt := 2) hx hb dX12_grows_19 (by decide) ?_
  refine lv_iload_n hx hb dX12_grows_2 rfl (lv_at hl 0 rfl) ?_
  refine lv_bipush (v := 10) hx hb dX12_grows_3 (by decide) ?_
  refine lv_icmp_ge (tgt := 22) hx hb dX12_grows_5 (by decide) (fun h9 => absurd h9 (by decide)) (fun _ => ?_)
  refine lv_aload_n hx hb dX12_grows_8 rfl (lv_at hl 1 rfl) ?_
  refine va_get (D := (dC, dI)) (ci := 12) (v := .ref fa) (C := RX12) (T := TX12) (N := 47) hx hb hts gX12 hown hK hP 0 rfl rfl 7 (by decide) (hts _ u_1257) (fun _ h9 => h9) rfl dX12_grows_9 ?_
  refine lv_iload_n hx hb dX12_grows_12 rfl (lv_at hl 0 rfl) ?_
  refine lv_bipush (v := 100) hx hb dX12_grows_13 (by decide) ?_
  refine va_iast hx hb hK hP hD hS 1 0 rfl rfl (by unfold vp_in; decide) dX12_grows_15 (fun H982 locs hP hD hS => ?_)
  generalize hff983 : upd f981 (9 : Int32).toNatClampNeg 100 = f983 at hP hD
  have hP : va_P (dC, dI) vwCl [(m0, .inr (12, mM kd gw fa gM 0 0 tk 0 0 0 0 0 th)), (fa, .inl (cf, 10, .inl f983))] H982 := hP
  have hD : va_D A [(m0, .inr (12, mM kd gw fa gM 0 0 tk 0 0 0 0 0 th)), (fa, .inl (cf, 10, .inl f983))] := hD
  refine lv_iinc (v := 10) (lv' := [(1, .int 10), (0, .ref m0)]) hx hb dX12_grows_16 hl (k := 0) rfl (by decide) (by decide) rfl (fun ls hl => ?_)
  refine lv_goto (tgt := 2) hx hb dX12_grows_19 (by decide) ?_
  refine lv_iload_n hx hb dX12_grows_2 rfl (lv_at hl 0 rfl) ?_
  refine lv_bipush (v := 10) hx hb dX12_grows_3 (by decide) ?_
  refine lv_icmp_ge (tgt := 22) hx hb dX12_grows_5 (by decide) (fun _ => ?_) (fun h9 => absurd (by decide) h9)
  refine lv_iconst (v := 0) hx hb dX12_grows_22 (by decide) ?_
  refine lv_istore_n (lv' := [(1, .int 0), (0, .ref m0)]) hx hb dX12_grows_23 rfl hl (by decide) rfl (fun ls hl => ?_)
  refine lv_iload_n hx hb dX12_grows_24 rfl (lv_at hl 0 rfl) ?_
  refine lv_aload_n hx hb dX12_grows_25 rfl (lv_at hl 1 rfl) ?_
  refine va_get (D := (dC, dI)) (ci := 12) (v := .int 0) (C := RX12) (T := TX12) (N := 47) hx hb hts gX12 hown hK hP 0 rfl rfl 0 (by decide) (hts _ u_1250) (fun _ h9 => h9) rfl dX12_grows_26 ?_
  refine lv_icmp_ge (tgt := 221) hx hb dX12_grows_29 (by decide) (fun _ => ?_) (fun h9 => absurd (by decide) h9)
  refine lv_iconst (v := 0) hx hb dX12_grows_221 (by decide) ?_
  refine lv_istore_n (lv' := [(1, .int 0), (0, .ref m0)]) hx hb dX12_grows_222 rfl hl (by decide) rfl (fun ls hl => ?_)
  refine lv_iload_n hx hb dX12_grows_223 rfl (lv_at hl 0 rfl) ?_
  refine lv_aload_n hx hb dX12_grows_224 rfl (lv_at hl 1 rfl) ?_
  refine va_get (D := (dC, dI)) (ci := 12) (v := .int 0) (C := RX12) (T := TX12) (N := 47) hx hb hts gX12 hown hK hP 0 rfl rfl 2 (by decide) (hts _ u_1252) (fun _ h9 => h9) rfl dX12_grows_225 ?_
  refine lv_icmp_ge (tgt := 265) hx hb dX12_grows_228 (by decide) (fun _ => ?_) (fun h9 => absurd (by decide) h9)
  refine lv_iconst (v := 0) hx hb dX12_grows_265 (by decide) ?_
  refine lv_istore_n (lv' := [(1, .int 0), (0, .ref m0)]) hx hb dX12_grows_266 rfl hl (by decide) rfl (fun ls hl => ?_)
  refine lv_iload_n hx hb dX12_grows_267 rfl (lv_at hl 0 rfl) ?_
  refine lv_aload_n hx hb dX12_grows_268 rfl (lv_at hl 1 rfl) ?_
  refine va_get (D := (dC, dI)) (ci := 12) (v := .int 0) (C := RX12) (T := TX12) (N := 47) hx hb hts gX12 hown hK hP 0 rfl rfl 0 (by decide) (hts _ u_1250) (fun _ h9 => h9) rfl dX12_grows_269 ?_
  refine lv_icmp_ge (tgt := 322) hx hb dX12_grows_272 (by decide) (fun _ => ?_) (fun h9 => absurd (by decide) h9)
  refine W.widen (k := 0) (n := 0) (Nat.le_of_ble_eq_true rfl) (Nat.le_of_ble_eq_true rfl) ?_
  exact W.vret hx hb hr (fun t ht hW => ⟨⟨(), rfl, trivial, ⟨f983, by rw [ht]; exact hP, va_K.moved hW.alike hK, hD⟩⟩, hS.F ht⟩) hS.2.2 dX12_grows_322
set_option maxHeartbeats 4000000 in
set_option maxRecDepth 100000 in
theorem ct_X12_isBox (l : Launch) (dC : Nat → ClassId) (dI : Nat → Nat → Nat) (sz : Nat) (m0 : Nat) (kd : Nat) (gw : Nat) (fa : Nat) (gM : Nat → Nat) (th : Int32) (tk : Int32) (a0 : Int32) : Met l yX12_isBox (Cond.code yX12_isBox cX12_isBox 2 (some .boolean) :: gU) ({ frames := 1, cells := 0, slots := 0, locals := 22 }) (gP dC dI sz [(m0, .inr (12, mM kd gw fa gM 0 0 tk 0 0 0 0 0 th))] [] [.ref m0, .int a0]) (va_Qi (fun (r : Int32) (_ : Unit) => r = 0) (fun _ _ => True) (va_A [] sz)) 0 0 (va_A [] sz) := by
  refine Met.ofW (cc := cX12_isBox) (maxL := 2) (ret := (some .boolean)) (by decide) rfl ?_
  intro p e s m args below meth c s₁ B hml hv
  obtain ⟨rfl, hsz, hP, hK, hD0, hE⟩ := hv
  have hx := B.exec
  have hb := B.bytes
  have hr := B.returns
  have hts0 := atoms_spec (ws := Cond.code yX12_isBox cX12_isBox 2 (some .boolean) :: gU) B.pre
  have hts : ∀ w ∈ gU, w.before _ s = true := fun w h => hts0 w (List.mem_cons_of_mem _ h)
  have hown : s.vm.findClass RX12 = some m.cls := findClass_of_methodNamed B.named
  have hlocks := B.notSynchronized
  subst hsz
  have hD := hD0
  generalize hAe : va_A [] s.heap.size = A at ⊢
  have hA : ∀ q : Nat, s.heap.size ≤ q → A q := fun q h => by rw [← hAe]; exact Or.inr h
  have hS : va_S A s.heap s.heap [] := va_S.rf
  have hP : va_P (dC, dI) vwCl [(m0, .inr (12, mM kd gw fa gM 0 0 tk 0 0 0 0 0 th))] s.heap := hP
  have hl := lv_entry ([.ref m0, .int a0]) (n := 2) (Nat.le_of_ble_eq_true rfl)
  rw [lg_entry_eq]
  generalize (lg_sl ([.ref m0, .int a0]) ++ List.replicate (2 - (lg_sl ([.ref m0, .int a0])).length) Slot.unset).toArray = ls at hl ⊢
  have hl : lv_has ls 2 [(0, .ref m0), (1, .int a0)] := hl
  refine lv_iload_n hx hb dX12_isBox_0 rfl (lv_at hl 1 rfl) ?_
  refine lv_iconst (v := 0) hx hb dX12_isBox_1 (by decide) ?_
  refine lv_aload_n hx hb dX12_isBox_2 rfl (lv_at hl 0 rfl) ?_
  refine va_get (D := (dC, dI)) (ci := 12) (v := .int 0) (C := RX12) (T := TX12) (N := 47) hx hb hts gX12 hown hK hP 0 rfl rfl 0 (by decide) (hts _ u_1250) (fun _ h9 => h9) rfl dX12_isBox_3 ?_
  refine lv_iconst (v := 1) hx hb dX12_isBox_6 (by decide) ?_
  refine lv_isub hx hb dX12_isBox_7 ?_
  refine lv_topi (fun z984 ez984 => ?_)
  obtain rfl : z984 = (-1) := ez984.trans (by decide)
  have hPc := hP.sub (ws' := []) [] rfl
  have hDc := hD.sub (ws' := []) [] (by decide) rfl
  have hKc := hK.sub (tys' := []) [] rfl
  have hFc := roF hS hA
  refine va_calli (va_runS (As := [.int a0, .int 0, .int (-1)]) (rest := []) ⟨hx, hb, hml, hown, hts⟩ (c_X12_isIn l dC dI s.heap.size a0 0 (-1)) (va_cwS 3 hts (gSt u_1400 u_1401 u_14 u_1402) rfl rfl rfl (by decide +kernel) ⟨Nat.le_of_ble_eq_true rfl, Nat.le_of_ble_eq_true rfl⟩) ⟨gP_blind, gP_call hPc hKc hDc hE⟩ rfl rfl hl.1 rfl (lv_room (Nat.le_of_ble_eq_true rfl)) dX12_isBox_8 ⟨(Nat.le_of_ble_eq_true rfl), (Nat.le_of_ble_eq_true rfl)⟩) hS (fun q _ h => hFc q h) hFc (fun r986 u9 t9 H985 locs ht hvm hw hB hz1 hk1 hS => ?_)
  have hP := roP hP hk1
  subst hw
  rw [gIs_no]
  refine W.widen (k := 0) (n := 0) (Nat.le_of_ble_eq_true rfl) (Nat.le_of_ble_eq_true rfl) ?_
  exact W.zret (v := 0) hx hb hr (by decide) (fun t ht hW => ⟨⟨0, (), rfl, rfl, trivial⟩, hS.F ht⟩) hS.2.2 dX12_isBox_11
set_option maxHeartbeats 4000000 in
set_option maxRecDepth 100000 in
theorem ct_X12_isPort (l : Launch) (dC : Nat → ClassId) (dI : Nat → Nat → Nat) (sz : Nat) (m0 : Nat) (kd : Nat) (gw : Nat) (fa : Nat) (gM : Nat → Nat) (th : Int32) (tk : Int32) (a0 : Int32) : Met l yX12_isPort (Cond.code yX12_isPort cX12_isPort 2 (some .boolean) :: gU) ({ frames := 2, cells := 0, slots := 0, locals := 43 }) (gP dC dI sz [(m0, .inr (12, mM kd gw fa gM 0 0 tk 0 0 0 0 0 th))] [] [.ref m0, .int a0]) (va_Qi (fun (r : Int32) (_ : Unit) => r = 0) (fun _ _ => True) (va_A [] sz)) 0 0 (va_A [] sz) := by
  refine Met.ofW (cc := cX12_isPort) (maxL := 2) (ret := (some .boolean)) (by decide) rfl ?_
  intro p e s m args below meth c s₁ B hml hv
  obtain ⟨rfl, hsz, hP, hK, hD0, hE⟩ := hv
  have hx := B.exec
  have hb := B.bytes
  have hr := B.returns
  have hts0 := atoms_spec (ws := Cond.code yX12_isPort cX12_isPort 2 (some .boolean) :: gU) B.pre
  have hts : ∀ w ∈ gU, w.before _ s = true := fun w h => hts0 w (List.mem_cons_of_mem _ h)
  have hown : s.vm.findClass RX12 = some m.cls := findClass_of_methodNamed B.named
  have hlocks := B.notSynchronized
  subst hsz
  have hD := hD0
  generalize hAe : va_A [] s.heap.size = A at ⊢
  have hA : ∀ q : Nat, s.heap.size ≤ q → A q := fun q h => by rw [← hAe]; exact Or.inr h
  have hS : va_S A s.heap s.heap [] := va_S.rf
  have hP : va_P (dC, dI) vwCl [(m0, .inr (12, mM kd gw fa gM 0 0 tk 0 0 0 0 0 th))] s.heap := hP
  have hl := lv_entry ([.ref m0, .int a0]) (n := 2) (Nat.le_of_ble_eq_true rfl)
  rw [lg_entry_eq]
  generalize (lg_sl ([.ref m0, .int a0]) ++ List.replicate (2 - (lg_sl ([.ref m0, .int a0])).length) Slot.unset).toArray = ls at hl ⊢
  have hl : lv_has ls 2 [(0, .ref m0), (1, .int a0)] := hl
  refine lv_iload_n hx hb dX12_isPort_0 rfl (lv_at hl 1 rfl) ?_
  refine lv_if_lt (tgt := 56) hx hb dX12_isPort_1 (by decide) (fun h1 => ?_) (fun h1 => ?_)
  · refine lv_iconst (v := 0) hx hb dX12_isPort_56 (by decide) ?_
    refine W.widen (k := 0) (n := 0) (Nat.le_of_ble_eq_true rfl) (Nat.le_of_ble_eq_true rfl) ?_
    exact W.zret (v := 0) hx hb hr (by decide) (fun t ht hW => ⟨⟨0, (), rfl, rfl, trivial⟩, hS.F ht⟩) hS.2.2 dX12_isPort_57
  · refine lv_aload_n hx hb dX12_isPort_4 rfl (lv_at hl 0 rfl) ?_
    refine lv_iload_n hx hb dX12_isPort_5 rfl (lv_at hl 1 rfl) ?_
    refine lv_iconst (v := 4) hx hb dX12_isPort_6 (by decide) ?_
    refine lv_idiv hx hb dX12_isPort_7 (by decide) ?_
    have hPc := hP.sub (ws' := [(m0, .inr (12, mM kd gw fa gM 0 0 tk 0 0 0 0 0 th))]) [0] rfl
    have hDc := hD.sub (ws' := [(m0, .inr (12, mM kd gw fa gM 0 0 tk 0 0 0 0 0 th))]) [0] (by decide) rfl
    have hKc := hK.sub (tys' := []) [] rfl
    have hFc := roF hS hA
    refine va_calli (va_runV (As := [.int (a0 / 4)]) (rest := []) ⟨hx, hb, hml, hown, hts⟩ (ct_X12_isBox l dC dI s.heap.size m0 kd gw fa gM th tk (a0 / 4)) (cwV 1 hts (gV u_1415 u_1417 v_46 u_14 u_1418) rfl rfl rfl (by decide +kernel) ⟨Nat.le_of_ble_eq_true rfl, Nat.le_of_ble_eq_true rfl⟩) ⟨gP_blind, va_recv hKc hPc (ci := 12) (q0 := 0) rfl rfl, gP_call hPc hKc hDc hE⟩ rfl rfl hl.1 rfl (lv_room (Nat.le_of_ble_eq_true rfl)) dX12_isPort_8 ⟨(Nat.le_of_ble_eq_true rfl), (Nat.le_of_ble_eq_true rfl)⟩) hS (fun q _ h => hFc q h) hFc (fun r988 u9 t9 H987 locs ht hvm hw hB hz1 hk1 hS => ?_)
    have hP := roP hP hk1
    subst hw
    refine lv_if_eq (tgt := 56) hx hb dX12_isPort_11 (by decide) (fun _ => ?_) (fun h9 => absurd (by decide) h9)
    refine lv_iconst (v := 0) hx hb dX12_isPort_56 (by decide) ?_
    refine W.widen (k := 0) (n := 0) (Nat.le_of_ble_eq_true rfl) (Nat.le_of_ble_eq_true rfl) ?_
    exact W.zret (v := 0) hx hb hr (by decide) (fun t ht hW => ⟨⟨0, (), rfl, rfl, trivial⟩, hS.F ht⟩) hS.2.2 dX12_isPort_57
set_option maxHeartbeats 4000000 in
set_option maxRecDepth 100000 in
theorem lp_surveys9 {p : Program} {l : Launch} {e : Env} {R : Room} {s : State} {m : MethodId} {args : Array Value} {below : List Frame} {meth : Method} {c : Code} {Q : State → Prop} {dC : Nat → ClassId} {dI : Nat → Nat → Nat} {A : Nat → Prop} {cells slots : Nat} {m0 kd gw fa : Nat} {gM : Nat → Nat} {th tk : Int32} {cf : ClassId} {fF : Nat → Int32} (hx : p.tables.exec = Jvm.exec) (hb : c.code = cX12_surveys) (hml : c.maxLocals = 2) (hown : s.vm.findClass RX12 = some m.cls) (hts : ∀ w ∈ gU, w.before args s = true) (hE : gEnv s) (hA : ∀ q : Nat, s.heap.size ≤ q → A q) (hK : va_K (dC, dI) vwCl [(cf, .int)] s)   (hRc : cells ≤ R.cells) (hRs : slots ≤ R.slots) (hRf : 3 ≤ R.frames) (hRl : 64 ≤ R.locals)
    (kk : ∀ (H : Heap) (locs : List Loc), va_P (dC, dI) vwCl [(m0, .inr (12, mM kd gw fa gM 0 0 tk 0 0 0 0 0 th)), (fa, .inl (cf, 10, .inl fF))] H → va_D A [(m0, .inr (12, mM kd gw fa gM 0 0 tk 0 0 0 0 0 th)), (fa, .inl (cf, 10, .inl fF))] → va_S A s.heap H locs → ∀ ls : Array Slot, lv_has ls 2 [(0, .ref m0), (1, .int (nI 40))] → W p l e R s m args below meth c H locs cells slots Q (F0 m 40 ls [])) :
    ∀ (n i : Nat) (x : Int32) , i ≤ 40 → 40 + 1 ≤ i + n → x = nI i → ∀ (H : Heap) (locs : List Loc), va_P (dC, dI) vwCl [(m0, .inr (12, mM kd gw fa gM 0 0 tk 0 0 0 0 0 th)), (fa, .inl (cf, 10, .inl fF))] H → va_D A [(m0, .inr (12, mM kd gw fa gM 0 0 tk 0 0 0 0 0 th)), (fa, .inl (cf, 10, .inl fF))] → va_S A s.heap H locs → ∀ ls : Array Slot, lv_has ls 2 [(0, .ref m0), (1, .int x)] → W p l e R s m args below meth c H locs cells slots Q (F0 m 6 ls []) := by
  intro n
  induction n with
  | zero => intro i x  h1 h2; exact absurd h2 (by omega)
  | succ n ih =>
    intro i x  hi hin ex   H locs hP hD hS ls hl
    refine lv_iload_n hx hb dX12_surveys_6 rfl (lv_at hl 1 rfl) ?_
    refine lv_bipush (v := 40) hx hb dX12_surveys_7 (by decide) ?_
    refine lv_icmp_ge (tgt := 40) hx hb dX12_surveys_9 (by decide) (fun c9 => ?_) (fun c9 => ?_)
    · have hiN := lpE (N := 40) ex (by omega) hi c9
      subst hiN
      subst ex
      exact kk    _ _ hP hD hS ls hl
    · have hiL := lpL (N := 40) ex hi (by omega) c9
      refine lv_aload_n hx hb dX12_surveys_12 rfl (lv_at hl 0 rfl) ?_
      refine lv_iload_n hx hb dX12_surveys_13 rfl (lv_at hl 1 rfl) ?_
      have hPc := hP.sub (ws' := [(m0, .inr (12, mM kd gw fa gM 0 0 tk 0 0 0 0 0 th))]) [0] rfl
      have hDc := hD.sub (ws' := [(m0, .inr (12, mM kd gw fa gM 0 0 tk 0 0 0 0 0 th))]) [0] (by decide) rfl
      have hKc := hK.sub (tys' := []) [] rfl
      have hFc := roF hS hA
      refine va_calli (va_runV (As := [.int x]) (rest := []) ⟨hx, hb, hml, hown, hts⟩ (ct_X12_isPort l dC dI H.size m0 kd gw fa gM th tk x) (cwV 1 hts (gV u_1411 u_1413 v_45 u_14 u_1414) rfl rfl rfl (by decide +kernel) ⟨Nat.le_trans (Nat.le_of_ble_eq_true rfl) hRf, Nat.le_trans (Nat.le_of_ble_eq_true rfl) hRl⟩) ⟨gP_blind, va_recv hKc hPc (ci := 12) (q0 := 0) rfl rfl, gP_call hPc hKc hDc hE⟩ rfl rfl hl.1 rfl (lv_room (Nat.le_of_ble_eq_true rfl)) dX12_surveys_14 ⟨(by omega), (by omega)⟩) hS (fun q _ h => hFc q h) hFc (fun r993 u9 t9 H992 locs ht hvm hw hB hz1 hk1 hS => ?_)
      have hP := roP hP hk1
      subst hw
      refine lv_if_eq (tgt := 34) hx hb dX12_surveys_17 (by decide) (fun _ => ?_) (fun h9 => absurd (by decide) h9)
      obtain ⟨x994, ex994⟩ : ∃ y : Int32, y = x + 1 := ⟨_, rfl⟩
      refine lv_iinc (v := x994) (lv' := [(1, .int x994), (0, .ref m0)]) hx hb dX12_surveys_34 hl (k := 1) rfl (by rw [ex994]; rfl) (by decide) rfl (fun ls hl => ?_)
      refine lv_goto (tgt := 6) hx hb dX12_surveys_37 (by decide) ?_
      exact ih (i + 1) x994  hiL (by omega) (by rw [ex994, ex]; exact nI_1 i)   _ _ hP hD hS ls (lv_sub hl [1, 0] rfl)
set_option maxHeartbeats 4000000 in
set_option maxRecDepth 100000 in
theorem c_X12_surveys (l : Launch) (dC : Nat → ClassId) (dI : Nat → Nat → Nat) (sz : Nat) (m0 : Nat) (kd : Nat) (gw : Nat) (fa : Nat) (gM : Nat → Nat) (th : Int32) (tk : Int32) (cf : ClassId) (fF : Nat → Int32) : Met l yX12_surveys (Cond.code yX12_surveys cX12_surveys 2 none :: gU) ({ frames := 4, cells := 0, slots := 0, locals := 100 }) (gP dC dI sz [(m0, .inr (12, mM kd gw fa gM 0 0 tk 0 0 0 0 0 th)), (fa, .inl (cf, 10, .inl fF))] [(cf, .int)] [.ref m0]) (va_Qv (fun (_ : Unit) => True) (fun (_ : Unit) (t9 : State) => ∃ (fF2 : Nat → Int32), va_P (dC, dI) vwCl [(m0, .inr (12, mM kd gw fa gM 0 0 tk 0 0 0 0 0 th)), (fa, .inl (cf, 10, .inl fF2))] t9.heap ∧ va_K (dC, dI) vwCl [(cf, .int)] t9 ∧ va_D (va_A [(m0, .inr (12, mM kd gw fa gM 0 0 tk 0 0 0 0 0 th)), (fa, .inl (cf, 10, .inl fF))] sz) [(m0, .inr (12, mM kd gw fa gM 0 0 tk 0 0 0 0 0 th)), (fa, .inl (cf, 10, .inl fF2))]) (va_A [(m0, .inr (12, mM kd gw fa gM 0 0 tk 0 0 0 0 0 th)), (fa, .inl (cf, 10, .inl fF))] sz)) 0 0 (va_A [(m0, .inr (12, mM kd gw fa gM 0 0 tk 0 0 0 0 0 th)), (fa, .inl (cf, 10, .inl fF))] sz) := by
  refine Met.ofW (cc := cX12_surveys) (maxL := 2) (ret := none) (by decide) rfl ?_
  intro p e s m args below meth c s₁ B hml hv
  obtain ⟨rfl, hsz, hP, hK, hD0, hE⟩ := hv
  have hx := B.exec
  have hb := B.bytes
  have hr := B.returns
  have hts0 := atoms_spec (ws := Cond.code yX12_surveys cX12_surveys 2 none :: gU) B.pre
  have hts : ∀ w ∈ gU, w.before _ s = true := fun w h => hts0 w (List.mem_cons_of_mem _ h)
  have hown : s.vm.findClass RX12 = some m.cls := findClass_of_methodNamed B.named
  have hlocks := B.notSynchronized
  subst hsz
  have hD := hD0.self (sz := s.heap.size)
  generalize hAe : va_A [(m0, .inr (12, mM kd gw fa gM 0 0 tk 0 0 0 0 0 th)), (fa, .inl (cf, 10, .inl fF))] s.heap.size = A at hD ⊢
  have hA : ∀ q : Nat, s.heap.size ≤ q → A q := fun q h => by rw [← hAe]; exact Or.inr h
  have hS : va_S A s.heap s.heap [] := va_S.rf
  have hP : va_P (dC, dI) vwCl [(m0, .inr (12, mM kd gw fa gM 0 0 tk 0 0 0 0 0 th)), (fa, .inl (cf, 10, .inl fF))] s.heap := hP
  have hl := lv_entry ([.ref m0]) (n := 2) (Nat.le_of_ble_eq_true rfl)
  rw [lg_entry_eq]
  generalize (lg_sl ([.ref m0]) ++ List.replicate (2 - (lg_sl ([.ref m0])).length) Slot.unset).toArray = ls at hl ⊢
  have hl : lv_has ls 2 [(0, .ref m0)] := hl
  refine lv_aload_n hx hb dX12_surveys_0 rfl (lv_at hl 0 rfl) ?_
  have hPc := hP.sub (ws' := [(m0, .inr (12, mM kd gw fa gM 0 0 tk 0 0 0 0 0 th)), (fa, .inl (cf, 10, .inl fF))]) [0, 1] rfl
  have hDc := hD.sub (ws' := [(m0, .inr (12, mM kd gw fa gM 0 0 tk 0 0 0 0 0 th)), (fa, .inl (cf, 10, .inl fF))]) [0, 1] (by decide) rfl
  have hKc := hK.sub (tys' := [(cf, .int)]) [0] rfl
  have hFc := va_free (wc := [(m0, .inr (12, mM kd gw fa gM 0 0 tk 0 0 0 0 0 th)), (fa, .inl (cf, 10, .inl fF))]) hD hS hA [0, 1] rfl
  refine va_callv (va_runV (As := []) (rest := []) ⟨hx, hb, hml, hown, hts⟩ (c_X12_grows l dC dI s.heap.size m0 kd gw fa gM th tk cf fF) (cwV 0 hts (gV u_1431 u_1433 v_48 u_14 u_1434) rfl rfl rfl (by decide +kernel) ⟨Nat.le_of_ble_eq_true rfl, Nat.le_of_ble_eq_true rfl⟩) ⟨gP_blind, va_recv hKc hPc (ci := 12) (q0 := 0) rfl rfl, gP_call hPc hKc hDc hE⟩ rfl rfl hl.1 rfl (lv_room (Nat.le_of_ble_eq_true rfl)) dX12_surveys_1 ⟨(Nat.le_of_ble_eq_true rfl), (Nat.le_of_ble_eq_true rfl)⟩) hS (fun q _ h => hFc q h) hFc (fun u9 t9 H995 locs ht hvm hw hB hz1 hk1 hS => ?_)
  obtain ⟨fF2997, hP1, hK1, hD1⟩ := hB
  rw [ht] at hP1
  have hK1 := va_K.moved hvm.symm hK1
  obtain ⟨hP, hD⟩ := va_join (wr := []) (w1 := [(m0, .inr (12, mM kd gw fa gM 0 0 tk 0 0 0 0 0 th)), (fa, .inl (cf, 10, .inl fF2997))]) hP hD [0, 1] [] rfl rfl (by decide) (by decide) hk1 hFc hP1 hD1
  have hK := (hK.sub (tys' := []) [] rfl).app hK1
  have hK : va_K (dC, dI) vwCl [(cf, .int)] s := hK
  have hP : va_P (dC, dI) vwCl [(m0, .inr (12, mM kd gw fa gM 0 0 tk 0 0 0 0 0 th)), (fa, .inl (cf, 10, .inl fF2997))] H995 := hP
  have hD : va_D A [(m0, .inr (12, mM kd gw fa gM 0 0 tk 0 0 0 0 0 th)), (fa, .inl (cf, 10, .inl fF2997))] := hD
  refine lv_iconst (v := 0) hx hb dX12_surveys_4 (by decide) ?_
  refine lv_istore_n (lv' := [(1, .int 0), (0, .ref m0)]) hx hb dX12_surveys_5 rfl hl (by decide) rfl (fun ls hl => ?_)
  refine lp_surveys9 hx hb hml hown hts hE hA hK (Nat.le_of_ble_eq_true rfl) (Nat.le_of_ble_eq_true rfl) (Nat.le_of_ble_eq_true rfl) (Nat.le_of_ble_eq_true rfl) (fun H998 locs hP hD hS ls hl => ?_) 41 0 0 (Nat.zero_le 40) (by omega) nI_0.symm _ _ hP hD hS ls (lv_sub hl [1, 0] rfl)
  have hP : va_P (dC, dI) vwCl [(m0, .inr (12, mM kd gw fa gM 0 0 tk 0 0 0 0 0 th)), (fa, .inl (cf, 10, .inl fF2997))] H998 := hP
  have hD : va_D A [(m0, .inr (12, mM kd gw fa gM 0 0 tk 0 0 0 0 0 th)), (fa, .inl (cf, 10, .inl fF2997))] := hD
  refine W.widen (k := 0) (n := 0) (Nat.le_of_ble_eq_true rfl) (Nat.le_of_ble_eq_true rfl) ?_
  exact W.vret hx hb hr (fun t ht hW => ⟨⟨(), rfl, trivial, ⟨fF2997, by rw [ht]; exact hP, va_K.moved hW.alike hK, hD⟩⟩, hS.F ht⟩) hS.2.2 dX12_surveys_40
set_option maxHeartbeats 4000000 in
set_option maxRecDepth 100000 in
theorem ct_X12_learns (l : Launch) (dC : Nat → ClassId) (dI : Nat → Nat → Nat) (sz : Nat) (m0 : Nat) (kd : Nat) (gw : Nat) (fa : Nat) (gM : Nat → Nat) (th : Int32) (tk : Int32) (a0 : Int32) : Met l yX12_learns (Cond.code yX12_learns cX12_learns 5 (some .boolean) :: gU) ({ frames := 0, cells := 0, slots := 0, locals := 0 }) (gP dC dI sz [(m0, .inr (12, mM kd gw fa gM 0 0 tk 0 0 0 0 0 th))] [] [.ref m0, .int a0]) (va_Qi (fun (r : Int32) (_ : Unit) => r = 0) (fun _ _ => True) (va_A [] sz)) 0 0 (va_A [] sz) := by
  refine Met.ofW (cc := cX12_learns) (maxL := 5) (ret := (some .boolean)) (by decide) rfl ?_
  intro p e s m args below meth c s₁ B hml hv
  obtain ⟨rfl, hsz, hP, hK, hD0, hE⟩ := hv
  have hx := B.exec
  have hb := B.bytes
  have hr := B.returns
  have hts0 := atoms_spec (ws := Cond.code yX12_learns cX12_learns 5 (some .boolean) :: gU) B.pre
  have hts : ∀ w ∈ gU, w.before _ s = true := fun w h => hts0 w (List.mem_cons_of_mem _ h)
  have hown : s.vm.findClass RX12 = some m.cls := findClass_of_methodNamed B.named
  have hlocks := B.notSynchronized
  subst hsz
  have hD := hD0
  generalize hAe : va_A [] s.heap.size = A at ⊢
  have hA : ∀ q : Nat, s.heap.size ≤ q → A q := fun q h => by rw [← hAe]; exact Or.inr h
  have hS : va_S A s.heap s.heap [] := va_S.rf
  have hP : va_P (dC, dI) vwCl [(m0, .inr (12, mM kd gw fa gM 0 0 tk 0 0 0 0 0 th))] s.heap := hP
  have hl := lv_entry ([.ref m0, .int a0]) (n := 5) (Nat.le_of_ble_eq_true rfl)
  rw [lg_entry_eq]
  generalize (lg_sl ([.ref m0, .int a0]) ++ List.replicate (5 - (lg_sl ([.ref m0, .int a0])).length) Slot.unset).toArray = ls at hl ⊢
  have hl : lv_has ls 5 [(0, .ref m0), (1, .int a0)] := hl
  refine lv_iconst (v := 0) hx hb dX12_learns_0 (by decide) ?_
  refine lv_istore_n (lv' := [(2, .int 0), (0, .ref m0), (1, .int a0)]) hx hb dX12_learns_1 rfl hl (by decide) rfl (fun ls hl => ?_)
  refine lv_iconst (v := 0) hx hb dX12_learns_2 (by decide) ?_
  refine lv_istore_n (lv' := [(3, .int 0), (2, .int 0), (0, .ref m0), (1, .int a0)]) hx hb dX12_learns_3 rfl hl (by decide) rfl (fun ls hl => ?_)
  refine lv_iload_n hx hb dX12_learns_4 rfl (lv_at hl 0 rfl) ?_
  refine lv_aload_n hx hb dX12_learns_5 rfl (lv_at hl 2 rfl) ?_
  refine va_get (D := (dC, dI)) (ci := 12) (v := .int 0) (C := RX12) (T := TX12) (N := 47) hx hb hts gX12 hown hK hP 0 rfl rfl 0 (by decide) (hts _ u_1250) (fun _ h9 => h9) rfl dX12_learns_6 ?_
  refine lv_icmp_ge (tgt := 65) hx hb dX12_learns_9 (by decide) (fun _ => ?_) (fun h9 => absurd (by decide) h9)
  refine lv_iconst (v := 0) hx hb dX12_learns_65 (by decide) ?_
  refine lv_istore_n (lv' := [(3, .int 0), (2, .int 0), (0, .ref m0), (1, .int a0)]) hx hb dX12_learns_66 rfl hl (by decide) rfl (fun ls hl => ?_)
  refine lv_iload_n hx hb dX12_learns_67 rfl (lv_at hl 0 rfl) ?_
  refine lv_aload_n hx hb dX12_learns_68 rfl (lv_at hl 2 rfl) ?_
  refine va_get (D := (dC, dI)) (ci := 12) (v := .int 0) (C := RX12) (T := TX12) (N := 47) hx hb hts gX12 hown hK hP 0 rfl rfl 0 (by decide) (hts _ u_1250) (fun _ h9 => h9) rfl dX12_learns_69 ?_
  refine lv_icmp_ge (tgt := 169) hx hb dX12_learns_72 (by decide) (fun _ => ?_) (fun h9 => absurd (by decide) h9)
  refine lv_iload_n hx hb dX12_learns_169 rfl (lv_at hl 1 rfl) ?_
  refine W.widen (k := 0) (n := 0) (Nat.le_of_ble_eq_true rfl) (Nat.le_of_ble_eq_true rfl) ?_
  exact W.zret (v := 0) hx hb hr (by decide) (fun t ht hW => ⟨⟨0, (), rfl, rfl, trivial⟩, hS.F ht⟩) hS.2.2 dX12_learns_170
set_option maxHeartbeats 4000000 in
set_option maxRecDepth 100000 in
theorem ct_X12_settlesLost (l : Launch) (dC : Nat → ClassId) (dI : Nat → Nat → Nat) (sz : Nat) (m0 : Nat) (kd : Nat) (gw : Nat) (fa : Nat) (gM : Nat → Nat) (th : Int32) (tk : Int32) : Met l yX12_settlesLost (Cond.code yX12_settlesLost cX12_settlesLost 4 none :: gU) ({ frames := 0, cells := 0, slots := 0, locals := 0 }) (gP dC dI sz [(m0, .inr (12, mM kd gw fa gM 0 0 tk 0 0 0 0 0 th))] [] [.ref m0]) (va_Qv (fun (_ : Unit) => True) (fun _ _ => True) (va_A [] sz)) 0 0 (va_A [] sz) := by
  refine Met.ofW (cc := cX12_settlesLost) (maxL := 4) (ret := none) (by decide) rfl ?_
  intro p e s m args below meth c s₁ B hml hv
  obtain ⟨rfl, hsz, hP, hK, hD0, hE⟩ := hv
  have hx := B.exec
  have hb := B.bytes
  have hr := B.returns
  have hts0 := atoms_spec (ws := Cond.code yX12_settlesLost cX12_settlesLost 4 none :: gU) B.pre
  have hts : ∀ w ∈ gU, w.before _ s = true := fun w h => hts0 w (List.mem_cons_of_mem _ h)
  have hown : s.vm.findClass RX12 = some m.cls := findClass_of_methodNamed B.named
  have hlocks := B.notSynchronized
  subst hsz
  have hD := hD0
  generalize hAe : va_A [] s.heap.size = A at ⊢
  have hA : ∀ q : Nat, s.heap.size ≤ q → A q := fun q h => by rw [← hAe]; exact Or.inr h
  have hS : va_S A s.heap s.heap [] := va_S.rf
  have hP : va_P (dC, dI) vwCl [(m0, .inr (12, mM kd gw fa gM 0 0 tk 0 0 0 0 0 th))] s.heap := hP
  have hl := lv_entry ([.ref m0]) (n := 4) (Nat.le_of_ble_eq_true rfl)
  rw [lg_entry_eq]
  generalize (lg_sl ([.ref m0]) ++ List.replicate (4 - (lg_sl ([.ref m0])).length) Slot.unset).toArray = ls at hl ⊢
  have hl : lv_has ls 4 [(0, .ref m0)] := hl
  refine lv_iconst (v := 0) hx hb dX12_settlesLost_0 (by decide) ?_
  refine lv_istore_n (lv' := [(1, .int 0), (0, .ref m0)]) hx hb dX12_settlesLost_1 rfl hl (by decide) rfl (fun ls hl => ?_)
  refine lv_iload_n hx hb dX12_settlesLost_2 rfl (lv_at hl 0 rfl) ?_
  refine lv_aload_n hx hb dX12_settlesLost_3 rfl (lv_at hl 1 rfl) ?_
  refine va_get (D := (dC, dI)) (ci := 12) (v := .int 0) (C := RX12) (T := TX12) (N := 47) hx hb hts gX12 hown hK hP 0 rfl rfl 37 (by decide) (hts _ u_1287) (fun _ h9 => h9) rfl dX12_settlesLost_4 ?_
  refine lv_icmp_ge (tgt := 91) hx hb dX12_settlesLost_7 (by decide) (fun _ => ?_) (fun h9 => absurd (by decide) h9)
  refine W.widen (k := 0) (n := 0) (Nat.le_of_ble_eq_true rfl) (Nat.le_of_ble_eq_true rfl) ?_
  exact W.vret hx hb hr (fun t ht hW => ⟨⟨(), rfl, trivial, trivial⟩, hS.F ht⟩) hS.2.2 dX12_settlesLost_91
set_option maxHeartbeats 4000000 in
set_option maxRecDepth 100000 in
theorem c_X12_goesOn (l : Launch) (dC : Nat → ClassId) (dI : Nat → Nat → Nat) (sz : Nat) (m0 : Nat) (kd : Nat) (gw : Nat) (fa : Nat) (gM : Nat → Nat) (th : Int32) (tk : Int32) (cf : ClassId) (fF : Nat → Int32) : Met l yX12_goesOn (Cond.code yX12_goesOn cX12_goesOn 4 none :: gU) ({ frames := 5, cells := 0, slots := 0, locals := 121 }) (gP dC dI sz [(m0, .inr (12, mM kd gw fa gM 0 0 tk 0 0 0 0 0 th)), (fa, .inl (cf, 10, .inl fF))] [(cf, .int)] [.ref m0]) (va_Qv (fun (_ : Unit) => True) (fun (_ : Unit) (t9 : State) => ∃ (fF2 : Nat → Int32), va_P (dC, dI) vwCl [(m0, .inr (12, mM kd gw fa gM 0 0 (tk + 1) 0 0 0 0 0 th)), (fa, .inl (cf, 10, .inl fF2))] t9.heap ∧ va_K (dC, dI) vwCl [(cf, .int)] t9 ∧ va_D (va_A [(m0, .inr (12, mM kd gw fa gM 0 0 tk 0 0 0 0 0 th)), (fa, .inl (cf, 10, .inl fF))] sz) [(m0, .inr (12, mM kd gw fa gM 0 0 (tk + 1) 0 0 0 0 0 th)), (fa, .inl (cf, 10, .inl fF2))]) (va_A [(m0, .inr (12, mM kd gw fa gM 0 0 tk 0 0 0 0 0 th)), (fa, .inl (cf, 10, .inl fF))] sz)) 0 0 (va_A [(m0, .inr (12, mM kd gw fa gM 0 0 tk 0 0 0 0 0 th)), (fa, .inl (cf, 10, .inl fF))] sz) := by
  refine Met.ofW (cc := cX12_goesOn) (maxL := 4) (ret := none) (by decide) rfl ?_
  intro p e s m args below meth c s₁ B hml hv
  obtain ⟨rfl, hsz, hP, hK, hD0, hE⟩ := hv
  have hx := B.exec
  have hb := B.bytes
  have hr := B.returns
  have hts0 := atoms_spec (ws := Cond.code yX12_goesOn cX12_goesOn 4 none :: gU) B.pre
  have hts : ∀ w ∈ gU, w.before _ s = true := fun w h => hts0 w (List.mem_cons_of_mem _ h)
  have hown : s.vm.findClass RX12 = some m.cls := findClass_of_methodNamed B.named
  have hlocks := B.notSynchronized
  subst hsz
  have hD := hD0.self (sz := s.heap.size)
  generalize hAe : va_A [(m0, .inr (12, mM kd gw fa gM 0 0 tk 0 0 0 0 0 th)), (fa, .inl (cf, 10, .inl fF))] s.heap.size = A at hD ⊢
  have hA : ∀ q : Nat, s.heap.size ≤ q → A q := fun q h => by rw [← hAe]; exact Or.inr h
  have hS : va_S A s.heap s.heap [] := va_S.rf
  have hP : va_P (dC, dI) vwCl [(m0, .inr (12, mM kd gw fa gM 0 0 tk 0 0 0 0 0 th)), (fa, .inl (cf, 10, .inl fF))] s.heap := hP
  have hl := lv_entry ([.ref m0]) (n := 4) (Nat.le_of_ble_eq_true rfl)
  rw [lg_entry_eq]
  generalize (lg_sl ([.ref m0]) ++ List.replicate (4 - (lg_sl ([.ref m0])).length) Slot.unset).toArray = ls at hl ⊢
  have hl : lv_has ls 4 [(0, .ref m0)] := hl
  refine lv_aload_n hx hb dX12_goesOn_0 rfl (lv_at hl 0 rfl) ?_
  refine lv_dup hx hb dX12_goesOn_1 rfl ?_
  refine va_get (D := (dC, dI)) (ci := 12) (v := .int tk) (C := RX12) (T := TX12) (N := 47) hx hb hts gX12 hown hK hP 0 rfl rfl 31 (by decide) (hts _ u_1281) (fun _ h9 => h9) rfl dX12_goesOn_2 ?_
  refine lv_iconst (v := 1) hx hb dX12_goesOn_5 (by decide) ?_
  refine lv_iadd hx hb dX12_goesOn_6 ?_
  refine va_put (D := (dC, dI)) (ci := 12) (v := .int (tk + 1)) (ty := .int) (C := RX12) (T := TX12) (N := 47) hx hb hts gX12 tyX12 tyX12_ok nmX12 hown hK hP hD hS 0 rfl rfl 31 (by decide) (hts _ u_1281) (fun _ h9 => h9) rfl (by decide +kernel) rfl rfl (Nat.le_of_ble_eq_true rfl) dX12_goesOn_7 (fun H999 locs hP hD hS => ?_)
  have hP : va_P (dC, dI) vwCl [(m0, .inr (12, mM kd gw fa gM 0 0 (tk + 1) 0 0 0 0 0 th)), (fa, .inl (cf, 10, .inl fF))] H999 := hP
  have hD : va_D A [(m0, .inr (12, mM kd gw fa gM 0 0 (tk + 1) 0 0 0 0 0 th)), (fa, .inl (cf, 10, .inl fF))] := hD
  refine lv_aload_n hx hb dX12_goesOn_10 rfl (lv_at hl 0 rfl) ?_
  have hPc := hP.sub (ws' := [(m0, .inr (12, mM kd gw fa gM 0 0 (tk + 1) 0 0 0 0 0 th)), (fa, .inl (cf, 10, .inl fF))]) [0, 1] rfl
  have hDc := hD.sub (ws' := [(m0, .inr (12, mM kd gw fa gM 0 0 (tk + 1) 0 0 0 0 0 th)), (fa, .inl (cf, 10, .inl fF))]) [0, 1] (by decide) rfl
  have hKc := hK.sub (tys' := [(cf, .int)]) [0] rfl
  have hFc := va_free (wc := [(m0, .inr (12, mM kd gw fa gM 0 0 (tk + 1) 0 0 0 0 0 th)), (fa, .inl (cf, 10, .inl fF))]) hD hS hA [0, 1] rfl
  refine va_callv (va_runV (As := []) (rest := []) ⟨hx, hb, hml, hown, hts⟩ (c_X12_surveys l dC dI H999.size m0 kd gw fa gM th (tk + 1) cf fF) (cwV 0 hts (gV u_1455 u_1457 v_52 u_14 u_1458) rfl rfl rfl (by decide +kernel) ⟨Nat.le_of_ble_eq_true rfl, Nat.le_of_ble_eq_true rfl⟩) ⟨gP_blind, va_recv hKc hPc (ci := 12) (q0 := 0) rfl rfl, gP_call hPc hKc hDc hE⟩ rfl rfl hl.1 rfl (lv_room (Nat.le_of_ble_eq_true rfl)) dX12_goesOn_11 ⟨(Nat.le_of_ble_eq_true rfl), (Nat.le_of_ble_eq_true rfl)⟩) hS (fun q _ h => hFc q h) hFc (fun u9 t9 H1000 locs ht hvm hw hB hz1 hk1 hS => ?_)
  obtain ⟨fF21002, hP1, hK1, hD1⟩ := hB
  rw [ht] at hP1
  have hK1 := va_K.moved hvm.symm hK1
  obtain ⟨hP, hD⟩ := va_join (wr := []) (w1 := [(m0, .inr (12, mM kd gw fa gM 0 0 (tk + 1) 0 0 0 0 0 th)), (fa, .inl (cf, 10, .inl fF21002))]) hP hD [0, 1] [] rfl rfl (by decide) (by decide) hk1 hFc hP1 hD1
  have hK := (hK.sub (tys' := []) [] rfl).app hK1
  have hK : va_K (dC, dI) vwCl [(cf, .int)] s := hK
  have hP : va_P (dC, dI) vwCl [(m0, .inr (12, mM kd gw fa gM 0 0 (tk + 1) 0 0 0 0 0 th)), (fa, .inl (cf, 10, .inl fF21002))] H1000 := hP
  have hD : va_D A [(m0, .inr (12, mM kd gw fa gM 0 0 (tk + 1) 0 0 0 0 0 th)), (fa, .inl (cf, 10, .inl fF21002))] := hD
  refine lv_aload_n hx hb dX12_goesOn_14 rfl (lv_at hl 0 rfl) ?_
  refine lv_iconst (v := 0) hx hb dX12_goesOn_15 (by decide) ?_
  have hPc := hP.sub (ws' := [(m0, .inr (12, mM kd gw fa gM 0 0 (tk + 1) 0 0 0 0 0 th))]) [0] rfl
  have hDc := hD.sub (ws' := [(m0, .inr (12, mM kd gw fa gM 0 0 (tk + 1) 0 0 0 0 0 th))]) [0] (by decide) rfl
  have hKc := hK.sub (tys' := []) [] rfl
  have hFc := roF hS hA
  refine va_calli (va_runV (As := [.int 0]) (rest := []) ⟨hx, hb, hml, hown, hts⟩ (ct_X12_learns l dC dI H1000.size m0 kd gw fa gM th (tk + 1) 0) (cwV 1 hts (gV u_1553 u_1555 v_67 u_14 u_1556) rfl rfl rfl (by decide +kernel) ⟨Nat.le_of_ble_eq_true rfl, Nat.le_of_ble_eq_true rfl⟩) ⟨gP_blind, va_recv hKc hPc (ci := 12) (q0 := 0) rfl rfl, gP_call hPc hKc hDc hE⟩ rfl rfl hl.1 rfl (lv_room (Nat.le_of_ble_eq_true rfl)) dX12_goesOn_16 ⟨(Nat.le_of_ble_eq_true rfl), (Nat.le_of_ble_eq_true rfl)⟩) hS (fun q _ h => hFc q h) hFc (fun r1004 u9 t9 H1003 locs ht hvm hw hB hz1 hk1 hS => ?_)
  have hP := roP hP hk1
  subst hw
  refine lv_pop hx hb dX12_goesOn_19 rfl ?_
  refine lv_aload_n hx hb dX12_goesOn_20 rfl (lv_at hl 0 rfl) ?_
  refine va_get (D := (dC, dI)) (ci := 12) (v := .int 0) (C := RX12) (T := TX12) (N := 47) hx hb hts gX12 hown hK hP 0 rfl rfl 34 (by decide) (hts _ u_1284) (fun _ h9 => h9) rfl dX12_goesOn_21 ?_
  refine lv_istore_n (lv' := [(1, .int 0), (0, .ref m0)]) hx hb dX12_goesOn_24 rfl hl (by decide) rfl (fun ls hl => ?_)
  refine lv_iconst (v := 0) hx hb dX12_goesOn_25 (by decide) ?_
  refine lv_istore_n (lv' := [(2, .int 0), (1, .int 0), (0, .ref m0)]) hx hb dX12_goesOn_26 rfl hl (by decide) rfl (fun ls hl => ?_)
  refine lv_iload_n hx hb dX12_goesOn_27 rfl (lv_at hl 0 rfl) ?_
  refine lv_iload_n hx hb dX12_goesOn_28 rfl (lv_at hl 1 rfl) ?_
  refine lv_icmp_ge (tgt := 136) hx hb dX12_goesOn_29 (by decide) (fun _ => ?_) (fun h9 => absurd (by decide) h9)
  refine lv_aload_n hx hb dX12_goesOn_136 rfl (lv_at hl 2 rfl) ?_
  have hPc := hP.sub (ws' := [(m0, .inr (12, mM kd gw fa gM 0 0 (tk + 1) 0 0 0 0 0 th))]) [0] rfl
  have hDc := hD.sub (ws' := [(m0, .inr (12, mM kd gw fa gM 0 0 (tk + 1) 0 0 0 0 0 th))]) [0] (by decide) rfl
  have hKc := hK.sub (tys' := []) [] rfl
  have hFc := roF hS hA
  refine va_callv (va_runV (As := []) (rest := []) ⟨hx, hb, hml, hown, hts⟩ (ct_X12_settlesLost l dC dI H1003.size m0 kd gw fa gM th (tk + 1)) (cwV 0 hts (gV u_1541 u_1543 v_65 u_14 u_1544) rfl rfl rfl (by decide +kernel) ⟨Nat.le_of_ble_eq_true rfl, Nat.le_of_ble_eq_true rfl⟩) ⟨gP_blind, va_recv hKc hPc (ci := 12) (q0 := 0) rfl rfl, gP_call hPc hKc hDc hE⟩ rfl rfl hl.1 rfl (lv_room (Nat.le_of_ble_eq_true rfl)) dX12_goesOn_137 ⟨(Nat.le_of_ble_eq_true rfl), (Nat.le_of_ble_eq_true rfl)⟩) hS (fun q _ h => hFc q h) hFc (fun u9 t9 H1005 locs ht hvm hw hB hz1 hk1 hS => ?_)
  have hP := roP hP hk1
  refine W.widen (k := 0) (n := 0) (Nat.le_of_ble_eq_true rfl) (Nat.le_of_ble_eq_true rfl) ?_
  exact W.vret hx hb hr (fun t ht hW => ⟨⟨(), rfl, trivial, ⟨fF21002, by rw [ht]; exact hP, va_K.moved hW.alike hK, hD⟩⟩, hS.F ht⟩) hS.2.2 dX12_goesOn_140
set_option maxHeartbeats 4000000 in
set_option maxRecDepth 100000 in
theorem lp_mtick {p : Program} {l : Launch} {e : Env} {R : Room} {s : State} {m : MethodId} {args : Array Value} {below : List Frame} {meth : Method} {c : Code} {Q : State → Prop} {dC : Nat → ClassId} {dI : Nat → Nat → Nat} {A : Nat → Prop} {cells slots : Nat} {m0 kd gw fa N : Nat} {gM : Nat → Nat} {th a0 : Int32} {cf : ClassId} (hN : N < 2 ^ 31) (eN : a0 = nI N) (hx : p.tables.exec = Jvm.exec) (hb : c.code = cX12_tick) (hml : c.maxLocals = 3) (hown : s.vm.findClass RX12 = some m.cls) (hts : ∀ w ∈ gU, w.before args s = true) (hE : gEnv s) (hA : ∀ q : Nat, s.heap.size ≤ q → A q) (hK : va_K (dC, dI) vwCl [(cf, .int)] s)   (hRc : cells ≤ R.cells) (hRs : slots ≤ R.slots) (hRf : 6 ≤ R.frames) (hRl : 144 ≤ R.locals)
    (kk : ∀ (tk : Int32) (fF : Nat → Int32), tk = nI N → ∀ (H : Heap) (locs : List Loc), va_P (dC, dI) vwCl [(m0, .inr (12, mM kd gw fa gM 0 0 tk 0 0 0 0 0 th)), (fa, .inl (cf, 10, .inl fF))] H → va_D A [(m0, .inr (12, mM kd gw fa gM 0 0 tk 0 0 0 0 0 th)), (fa, .inl (cf, 10, .inl fF))] → va_S A s.heap H locs → ∀ ls : Array Slot, lv_has ls 3 [(0, .ref m0), (1, .int a0), (2, .int (nI N))] → W p l e R s m args below meth c H locs cells slots Q (F0 m 41 ls [])) :
    ∀ (n i : Nat) (x : Int32) (tk : Int32) (fF : Nat → Int32), i ≤ N → N + 1 ≤ i + n → x = nI i → tk = nI i → ∀ (H : Heap) (locs : List Loc), va_P (dC, dI) vwCl [(m0, .inr (12, mM kd gw fa gM 0 0 tk 0 0 0 0 0 th)), (fa, .inl (cf, 10, .inl fF))] H → va_D A [(m0, .inr (12, mM kd gw fa gM 0 0 tk 0 0 0 0 0 th)), (fa, .inl (cf, 10, .inl fF))] → va_S A s.heap H locs → ∀ ls : Array Slot, lv_has ls 3 [(0, .ref m0), (1, .int a0), (2, .int x)] → W p l e R s m args below meth c H locs cells slots Q (F0 m 26 ls []) := by
  intro n
  induction n with
  | zero => intro i x tk fF h1 h2; exact absurd h2 (by omega)
  | succ n ih =>
    intro i x tk fF hi hin ex en  H locs hP hD hS ls hl
    refine lv_iload_n hx hb dX12_tick_26 rfl (lv_at hl 2 rfl) ?_
    refine lv_iload_n hx hb dX12_tick_27 rfl (lv_at hl 1 rfl) ?_
    refine lv_icmp_ge (tgt := 41) hx hb dX12_tick_28 (by decide) (fun c9 => ?_) (fun c9 => ?_)
    · have hiN := lpE (N := N) ex (by omega) hi (by rw [← eN]; exact c9)
      subst hiN
      subst ex
      exact kk tk fF en  _ _ hP hD hS ls hl
    · have hiL := lpL (N := N) ex hi (by omega) (fun q => c9 (by rw [eN]; exact q))
      refine lv_aload_n hx hb dX12_tick_31 rfl (lv_at hl 0 rfl) ?_
      have hPc := hP.sub (ws' := [(m0, .inr (12, mM kd gw fa gM 0 0 tk 0 0 0 0 0 th)), (fa, .inl (cf, 10, .inl fF))]) [0, 1] rfl
      have hDc := hD.sub (ws' := [(m0, .inr (12, mM kd gw fa gM 0 0 tk 0 0 0 0 0 th)), (fa, .inl (cf, 10, .inl fF))]) [0, 1] (by decide) rfl
      have hKc := hK.sub (tys' := [(cf, .int)]) [0] rfl
      have hFc := va_free (wc := [(m0, .inr (12, mM kd gw fa gM 0 0 tk 0 0 0 0 0 th)), (fa, .inl (cf, 10, .inl fF))]) hD hS hA [0, 1] rfl
      refine va_callv (va_runV (As := []) (rest := []) ⟨hx, hb, hml, hown, hts⟩ (c_X12_goesOn l dC dI H.size m0 kd gw fa gM th tk cf fF) (cwV 0 hts (gV u_1549 u_1551 v_66 u_14 u_1552) rfl rfl rfl (by decide +kernel) ⟨Nat.le_trans (Nat.le_of_ble_eq_true rfl) hRf, Nat.le_trans (Nat.le_of_ble_eq_true rfl) hRl⟩) ⟨gP_blind, va_recv hKc hPc (ci := 12) (q0 := 0) rfl rfl, gP_call hPc hKc hDc hE⟩ rfl rfl hl.1 rfl (lv_room (Nat.le_of_ble_eq_true rfl)) dX12_tick_32 ⟨(by omega), (by omega)⟩) hS (fun q _ h => hFc q h) hFc (fun u9 t9 H1007 locs ht hvm hw hB hz1 hk1 hS => ?_)
      obtain ⟨fF21009, hP1, hK1, hD1⟩ := hB
      rw [ht] at hP1
      have hK1 := va_K.moved hvm.symm hK1
      obtain ⟨hP, hD⟩ := va_join (wr := []) (w1 := [(m0, .inr (12, mM kd gw fa gM 0 0 (tk + 1) 0 0 0 0 0 th)), (fa, .inl (cf, 10, .inl fF21009))]) hP hD [0, 1] [] rfl rfl (by decide) (by decide) hk1 hFc hP1 hD1
      have hK := (hK.sub (tys' := []) [] rfl).app hK1
      have hK : va_K (dC, dI) vwCl [(cf, .int)] s := hK
      have hP : va_P (dC, dI) vwCl [(m0, .inr (12, mM kd gw fa gM 0 0 (tk + 1) 0 0 0 0 0 th)), (fa, .inl (cf, 10, .inl fF21009))] H1007 := hP
      have hD : va_D A [(m0, .inr (12, mM kd gw fa gM 0 0 (tk + 1) 0 0 0 0 0 th)), (fa, .inl (cf, 10, .inl fF21009))] := hD
      obtain ⟨x1010, ex1010⟩ : ∃ y : Int32, y = x + 1 := ⟨_, rfl⟩
      refine lv_iinc (v := x1010) (lv' := [(2, .int x1010), (0, .ref m0), (1, .int a0)]) hx hb dX12_tick_35 hl (k := 2) rfl (by rw [ex1010]; rfl) (by decide) rfl (fun ls hl => ?_)
      refine lv_goto (tgt := 26) hx hb dX12_tick_38 (by decide) ?_
      exact ih (i + 1) x1010 (tk + 1) fF21009 hiL (by omega) (by rw [ex1010, ex]; exact nI_1 i) (by rw [en]; exact nI_1 i)  _ _ hP hD hS ls (lv_sub hl [1, 2, 0] rfl)
set_option maxHeartbeats 4000000 in
set_option maxRecDepth 100000 in
theorem c_X12_tick (l : Launch) (dC : Nat → ClassId) (dI : Nat → Nat → Nat) (sz : Nat) (m0 : Nat) (kd : Nat) (gw : Nat) (fa : Nat) (gM : Nat → Nat) (th : Int32) (cf : ClassId) (a0 : Int32) : Met l yX12_tick (Cond.code yX12_tick cX12_tick 3 (some .int) :: gU) ({ frames := 6, cells := 0, slots := 0, locals := 180 }) (gP dC dI sz [(m0, .inr (12, mM kd gw fa gM 0 0 0 0 0 0 0 0 th)), (fa, .inl (cf, 10, .inl (fun _ => 0)))] [(cf, .int)] [.ref m0, .int a0]) (va_Qi (fun (r : Int32) (u9 : Int32 × Int32) => (¬ gIs a0 1 30 = 0 → r = a0 ∧ u9.2 = 0) ∧ (gIs a0 1 30 = 0 → u9.2 = 1)) (fun (u9 : Int32 × Int32) (t9 : State) => va_P (dC, dI) vwCl [(m0, .inr (12, mM kd gw fa gM 0 0 u9.1 0 0 0 0 0 u9.2))] t9.heap ∧ va_K (dC, dI) vwCl [] t9 ∧ va_D (va_A [(m0, .inr (12, mM kd gw fa gM 0 0 0 0 0 0 0 0 th)), (fa, .inl (cf, 10, .inl (fun _ => 0)))] sz) [(m0, .inr (12, mM kd gw fa gM 0 0 u9.1 0 0 0 0 0 u9.2))]) (va_A [(m0, .inr (12, mM kd gw fa gM 0 0 0 0 0 0 0 0 th)), (fa, .inl (cf, 10, .inl (fun _ => 0)))] sz)) 0 0 (va_A [(m0, .inr (12, mM kd gw fa gM 0 0 0 0 0 0 0 0 th)), (fa, .inl (cf, 10, .inl (fun _ => 0)))] sz) := by
  refine Met.ofW (cc := cX12_tick) (maxL := 3) (ret := (some .int)) (by decide) rfl ?_
  intro p e s m args below meth c s₁ B hml hv
  obtain ⟨rfl, hsz, hP, hK, hD0, hE⟩ := hv
  have hx := B.exec
  have hb := B.bytes
  have hr := B.returns
  have hts0 := atoms_spec (ws := Cond.code yX12_tick cX12_tick 3 (some .int) :: gU) B.pre
  have hts : ∀ w ∈ gU, w.before _ s = true := fun w h => hts0 w (List.mem_cons_of_mem _ h)
  have hown : s.vm.findClass RX12 = some m.cls := findClass_of_methodNamed B.named
  have hlocks := B.notSynchronized
  subst hsz
  have hD := hD0.self (sz := s.heap.size)
  generalize hAe : va_A [(m0, .inr (12, mM kd gw fa gM 0 0 0 0 0 0 0 0 th)), (fa, .inl (cf, 10, .inl (fun _ => 0)))] s.heap.size = A at hD ⊢
  have hA : ∀ q : Nat, s.heap.size ≤ q → A q := fun q h => by rw [← hAe]; exact Or.inr h
  have hS : va_S A s.heap s.heap [] := va_S.rf
  have hP : va_P (dC, dI) vwCl [(m0, .inr (12, mM kd gw fa gM 0 0 0 0 0 0 0 0 th)), (fa, .inl (cf, 10, .inl (fun _ => 0)))] s.heap := hP
  have hl := lv_entry ([.ref m0, .int a0]) (n := 3) (Nat.le_of_ble_eq_true rfl)
  rw [lg_entry_eq]
  generalize (lg_sl ([.ref m0, .int a0]) ++ List.replicate (3 - (lg_sl ([.ref m0, .int a0])).length) Slot.unset).toArray = ls at hl ⊢
  have hl : lv_has ls 3 [(0, .ref m0), (1, .int a0)] := hl
  refine lv_aload_n hx hb dX12_tick_0 rfl (lv_at hl 0 rfl) ?_
  refine lv_iload_n hx hb dX12_tick_1 rfl (lv_at hl 1 rfl) ?_
  refine lv_iconst (v := 1) hx hb dX12_tick_2 (by decide) ?_
  refine lv_bipush (v := 30) hx hb dX12_tick_3 (by decide) ?_
  have hPc := hP.sub (ws' := []) [] rfl
  have hDc := hD.sub (ws' := []) [] (by decide) rfl
  have hKc := hK.sub (tys' := []) [] rfl
  have hFc := roF hS hA
  refine va_calli (va_runS (As := [.int a0, .int 1, .int 30]) (rest := [.ref m0]) ⟨hx, hb, hml, hown, hts⟩ (c_X12_isIn l dC dI s.heap.size a0 1 30) (va_cwS 3 hts (gSt u_1400 u_1401 u_14 u_1402) rfl rfl rfl (by decide +kernel) ⟨Nat.le_of_ble_eq_true rfl, Nat.le_of_ble_eq_true rfl⟩) ⟨gP_blind, gP_call hPc hKc hDc hE⟩ rfl rfl hl.1 rfl (lv_room (Nat.le_of_ble_eq_true rfl)) dX12_tick_5 ⟨(Nat.le_of_ble_eq_true rfl), (Nat.le_of_ble_eq_true rfl)⟩) hS (fun q _ h => hFc q h) hFc (fun r1012 u9 t9 H1011 locs ht hvm hw hB hz1 hk1 hS => ?_)
  have hP := roP hP hk1
  subst hw
  refine lv_if_eq (tgt := 15) hx hb dX12_tick_8 (by decide) (fun h1 => ?_) (fun h1 => ?_)
  · refine lv_iconst (v := 1) hx hb dX12_tick_15 (by decide) ?_
    have hPc := hP.sub (ws' := [(m0, .inr (12, mM kd gw fa gM 0 0 0 0 0 0 0 0 th))]) [0] rfl
    have hDc := hD.sub (ws' := [(m0, .inr (12, mM kd gw fa gM 0 0 0 0 0 0 0 0 th))]) [0] (by decide) rfl
    have hKc := hK.sub (tys' := []) [] rfl
    have hFc := va_free (wc := [(m0, .inr (12, mM kd gw fa gM 0 0 0 0 0 0 0 0 th))]) hD hS hA [0] rfl
    refine va_calli (va_runV (As := [.int 1]) (rest := []) ⟨hx, hb, hml, hown, hts⟩ (c_X12_can l dC dI H1011.size m0 kd gw fa gM th 1) (cwV 1 hts (gV u_1403 u_1405 v_44 u_14 u_1406) rfl rfl rfl (by decide +kernel) ⟨Nat.le_of_ble_eq_true rfl, Nat.le_of_ble_eq_true rfl⟩) ⟨gP_blind, va_recv hKc hPc (ci := 12) (q0 := 0) rfl rfl, gP_call hPc hKc hDc hE⟩ rfl rfl hl.1 rfl (lv_room (Nat.le_of_ble_eq_true rfl)) dX12_tick_16 ⟨(Nat.le_of_ble_eq_true rfl), (Nat.le_of_ble_eq_true rfl)⟩) hS (fun q _ h => hFc q h) hFc (fun r1014 u9 t9 H1013 locs ht hvm hw hB hz1 hk1 hS => ?_)
    obtain ⟨hP1, hK1, hD1⟩ := hB
    rw [ht] at hP1
    have hK1 := va_K.moved hvm.symm hK1
    obtain ⟨hP, hD⟩ := va_join (wr := [(fa, .inl (cf, 10, .inl (fun _ => 0)))]) (w1 := [(m0, .inr (12, mM kd gw fa gM 0 0 0 0 0 0 0 0 1))]) hP hD [0] [1] rfl rfl (by decide) (by decide) hk1 hFc hP1 hD1
    have hK := (hK.sub (tys' := [(cf, .int)]) [0] rfl).app hK1
    have hK : va_K (dC, dI) vwCl [(cf, .int)] s := hK
    have hP : va_P (dC, dI) vwCl [(fa, .inl (cf, 10, .inl (fun _ => 0))), (m0, .inr (12, mM kd gw fa gM 0 0 0 0 0 0 0 0 1))] H1013 := hP
    have hD : va_D A [(fa, .inl (cf, 10, .inl (fun _ => 0))), (m0, .inr (12, mM kd gw fa gM 0 0 0 0 0 0 0 0 1))] := hD
    subst hw
    rw [show gCan 1 = 0 from by decide]
    refine lv_if_ne (tgt := 24) hx hb dX12_tick_19 (by decide) (fun h9 => absurd (by decide) h9) (fun _ => ?_)
    refine lv_iconst (v := 0) hx hb dX12_tick_22 (by decide) ?_
    have hP := hP.sub (ws' := [(m0, .inr (12, mM kd gw fa gM 0 0 0 0 0 0 0 0 1))]) [1] rfl
    have hD := hD.sub (ws' := [(m0, .inr (12, mM kd gw fa gM 0 0 0 0 0 0 0 0 1))]) [1] (by decide) rfl
    have hK := hK.sub (tys' := []) [] rfl
    refine W.widen (k := 0) (n := 0) (Nat.le_of_ble_eq_true rfl) (Nat.le_of_ble_eq_true rfl) ?_
    exact W.iret (v := 0) hx hb hr (fun t ht hW => ⟨⟨0, (0, 1), rfl, ⟨fun q => absurd h1 q, fun _ => rfl⟩, ⟨by rw [ht]; exact hP, va_K.moved hW.alike hK, hD⟩⟩, hS.F ht⟩) hS.2.2 dX12_tick_23
  · refine lv_iconst (v := 0) hx hb dX12_tick_11 (by decide) ?_
    refine lv_goto (tgt := 16) hx hb dX12_tick_12 (by decide) ?_
    have hPc := hP.sub (ws' := [(m0, .inr (12, mM kd gw fa gM 0 0 0 0 0 0 0 0 th))]) [0] rfl
    have hDc := hD.sub (ws' := [(m0, .inr (12, mM kd gw fa gM 0 0 0 0 0 0 0 0 th))]) [0] (by decide) rfl
    have hKc := hK.sub (tys' := []) [] rfl
    have hFc := va_free (wc := [(m0, .inr (12, mM kd gw fa gM 0 0 0 0 0 0 0 0 th))]) hD hS hA [0] rfl
    refine va_calli (va_runV (As := [.int 0]) (rest := []) ⟨hx, hb, hml, hown, hts⟩ (c_X12_can l dC dI H1011.size m0 kd gw fa gM th 0) (cwV 1 hts (gV u_1403 u_1405 v_44 u_14 u_1406) rfl rfl rfl (by decide +kernel) ⟨Nat.le_of_ble_eq_true rfl, Nat.le_of_ble_eq_true rfl⟩) ⟨gP_blind, va_recv hKc hPc (ci := 12) (q0 := 0) rfl rfl, gP_call hPc hKc hDc hE⟩ rfl rfl hl.1 rfl (lv_room (Nat.le_of_ble_eq_true rfl)) dX12_tick_16 ⟨(Nat.le_of_ble_eq_true rfl), (Nat.le_of_ble_eq_true rfl)⟩) hS (fun q _ h => hFc q h) hFc (fun r1016 u9 t9 H1015 locs ht hvm hw hB hz1 hk1 hS => ?_)
    obtain ⟨hP1, hK1, hD1⟩ := hB
    rw [ht] at hP1
    have hK1 := va_K.moved hvm.symm hK1
    obtain ⟨hP, hD⟩ := va_join (wr := [(fa, .inl (cf, 10, .inl (fun _ => 0)))]) (w1 := [(m0, .inr (12, mM kd gw fa gM 0 0 0 0 0 0 0 0 0))]) hP hD [0] [1] rfl rfl (by decide) (by decide) hk1 hFc hP1 hD1
    have hK := (hK.sub (tys' := [(cf, .int)]) [0] rfl).app hK1
    have hK : va_K (dC, dI) vwCl [(cf, .int)] s := hK
    have hP : va_P (dC, dI) vwCl [(fa, .inl (cf, 10, .inl (fun _ => 0))), (m0, .inr (12, mM kd gw fa gM 0 0 0 0 0 0 0 0 0))] H1015 := hP
    have hD : va_D A [(fa, .inl (cf, 10, .inl (fun _ => 0))), (m0, .inr (12, mM kd gw fa gM 0 0 0 0 0 0 0 0 0))] := hD
    subst hw
    rw [show gCan 0 = 1 from by decide]
    refine lv_if_ne (tgt := 24) hx hb dX12_tick_19 (by decide) (fun _ => ?_) (fun h9 => absurd h9 (by decide))
    refine lv_iconst (v := 0) hx hb dX12_tick_24 (by decide) ?_
    refine lv_istore_n (lv' := [(2, .int 0), (0, .ref m0), (1, .int a0)]) hx hb dX12_tick_25 rfl hl (by decide) rfl (fun ls hl => ?_)
    have hP := hP.sub (ws' := [(m0, .inr (12, mM kd gw fa gM 0 0 0 0 0 0 0 0 0)), (fa, .inl (cf, 10, .inl (fun _ => 0)))]) [1, 0] rfl
    have hD := hD.sub (ws' := [(m0, .inr (12, mM kd gw fa gM 0 0 0 0 0 0 0 0 0)), (fa, .inl (cf, 10, .inl (fun _ => 0)))]) [1, 0] (by decide) rfl
    have hK := hK.sub (tys' := [(cf, .int)]) [0] rfl
    obtain ⟨N, hN30, eN⟩ := rng30 (gIs_t h1)
    refine lp_mtick (N := N) (by omega) eN hx hb hml hown hts hE hA hK (Nat.le_of_ble_eq_true rfl) (Nat.le_of_ble_eq_true rfl) (Nat.le_of_ble_eq_true rfl) (Nat.le_of_ble_eq_true rfl) (fun z1017 z1018 en H1019 locs hP hD hS ls hl => ?_) (N + 1) 0 0 0 (fun _ => 0) (Nat.zero_le N) (by omega) nI_0.symm nI_0.symm _ _ hP hD hS ls (lv_sub hl [1, 2, 0] rfl)
    have hP : va_P (dC, dI) vwCl [(m0, .inr (12, mM kd gw fa gM 0 0 z1017 0 0 0 0 0 0)), (fa, .inl (cf, 10, .inl z1018))] H1019 := hP
    have hD : va_D A [(m0, .inr (12, mM kd gw fa gM 0 0 z1017 0 0 0 0 0 0)), (fa, .inl (cf, 10, .inl z1018))] := hD
    refine lv_aload_n hx hb dX12_tick_41 rfl (lv_at hl 0 rfl) ?_
    refine va_get (D := (dC, dI)) (ci := 12) (v := .int z1017) (C := RX12) (T := TX12) (N := 47) hx hb hts gX12 hown hK hP 0 rfl rfl 31 (by decide) (hts _ u_1281) (fun _ h9 => h9) rfl dX12_tick_42 ?_
    have hP := hP.sub (ws' := [(m0, .inr (12, mM kd gw fa gM 0 0 z1017 0 0 0 0 0 0))]) [0] rfl
    have hD := hD.sub (ws' := [(m0, .inr (12, mM kd gw fa gM 0 0 z1017 0 0 0 0 0 0))]) [0] (by decide) rfl
    have hK := hK.sub (tys' := []) [] rfl
    refine W.widen (k := 0) (n := 0) (Nat.le_of_ble_eq_true rfl) (Nat.le_of_ble_eq_true rfl) ?_
    exact W.iret (v := z1017) hx hb hr (fun t ht hW => ⟨⟨z1017, (z1017, 0), rfl, ⟨fun _ => ⟨by rw [en, eN], rfl⟩, fun q => absurd q h1⟩, ⟨by rw [ht]; exact hP, va_K.moved hW.alike hK, hD⟩⟩, hS.F ht⟩) hS.2.2 dX12_tick_45
