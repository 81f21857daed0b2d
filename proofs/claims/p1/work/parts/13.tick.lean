theorem gSt {own : String} {k : Nat} {y : MethodName} {w : Cond} (h1 : Cond.methodLink own k y ∈ gU) (h2 : Cond.static y ∈ gU) (h4 : Cond.initialized y.cls ∈ gU) (h5 : w ∈ gU) : GoodIn gU (va_wsS own k y (w :: gU)) := gS h1 h2 h4 h5
theorem dL_tick_0 : decode cL_tick 0 = .ok (.aload_n 2, 1) := by decide +kernel
theorem dL_tick_1 : decode cL_tick 1 = .ok (.iconst 0, 1) := by decide +kernel
theorem dL_tick_2 : decode cL_tick 2 = .ok (.aload_n 0, 1) := by decide +kernel
theorem dL_tick_3 : decode cL_tick 3 = .ok (.iload_n 1, 1) := by decide +kernel
theorem dL_tick_4 : decode cL_tick 4 = .ok (.invokevirtual 62, 3) := by decide +kernel
theorem dL_tick_7 : decode cL_tick 7 = .ok (.i2l, 1) := by decide +kernel
theorem dL_tick_8 : decode cL_tick 8 = .ok (.lastore, 1) := by decide +kernel
theorem dL_tick_9 : decode cL_tick 9 = .ok (.goto 6, 3) := by decide +kernel
theorem dL_tick_12 : decode cL_tick 12 = .ok (.astore_n 3, 1) := by decide +kernel
theorem dL_tick_13 : decode cL_tick 13 = .ok (.iconst 1, 1) := by decide +kernel
theorem dL_tick_14 : decode cL_tick 14 = .ok (.ireturn, 1) := by decide +kernel
theorem dL_tick_15 : decode cL_tick 15 = .ok (.iconst 0, 1) := by decide +kernel
theorem dL_tick_16 : decode cL_tick 16 = .ok (.ireturn, 1) := by decide +kernel
theorem dX11_tick_0 : decode cX11_tick 0 = .ok (.iload_n 1, 1) := by decide +kernel
theorem dX11_tick_1 : decode cX11_tick 1 = .ok (.iconst 1, 1) := by decide +kernel
theorem dX11_tick_2 : decode cX11_tick 2 = .ok (.if_icmp .lt 13, 3) := by decide +kernel
theorem dX11_tick_5 : decode cX11_tick 5 = .ok (.iload_n 1, 1) := by decide +kernel
theorem dX11_tick_6 : decode cX11_tick 6 = .ok (.bipush 30, 2) := by decide +kernel
theorem dX11_tick_8 : decode cX11_tick 8 = .ok (.if_icmp .gt 7, 3) := by decide +kernel
theorem dX11_tick_11 : decode cX11_tick 11 = .ok (.iconst 1, 1) := by decide +kernel
theorem dX11_tick_12 : decode cX11_tick 12 = .ok (.goto 4, 3) := by decide +kernel
theorem dX11_tick_15 : decode cX11_tick 15 = .ok (.iconst 0, 1) := by decide +kernel
theorem dX11_tick_16 : decode cX11_tick 16 = .ok (.invokestatic 64, 3) := by decide +kernel
theorem dX11_tick_19 : decode cX11_tick 19 = .ok (.iconst 0, 1) := by decide +kernel
theorem dX11_tick_20 : decode cX11_tick 20 = .ok (.istore_n 2, 1) := by decide +kernel
theorem dX11_tick_21 : decode cX11_tick 21 = .ok (.iload_n 2, 1) := by decide +kernel
theorem dX11_tick_22 : decode cX11_tick 22 = .ok (.iload_n 1, 1) := by decide +kernel
theorem dX11_tick_23 : decode cX11_tick 23 = .ok (.if_icmp .ge 16, 3) := by decide +kernel
theorem dX11_tick_26 : decode cX11_tick 26 = .ok (.aload_n 0, 1) := by decide +kernel
theorem dX11_tick_27 : decode cX11_tick 27 = .ok (.getfield 53, 3) := by decide +kernel
theorem dX11_tick_30 : decode cX11_tick 30 = .ok (.invokevirtual 172, 3) := by decide +kernel
theorem dX11_tick_33 : decode cX11_tick 33 = .ok (.iinc 2 1, 3) := by decide +kernel
theorem dX11_tick_36 : decode cX11_tick 36 = .ok (.goto (-15), 3) := by decide +kernel
theorem dX11_tick_39 : decode cX11_tick 39 = .ok (.aload_n 0, 1) := by decide +kernel
theorem dX11_tick_40 : decode cX11_tick 40 = .ok (.getfield 53, 3) := by decide +kernel
theorem dX11_tick_43 : decode cX11_tick 43 = .ok (.getfield 149, 3) := by decide +kernel
theorem dX11_tick_46 : decode cX11_tick 46 = .ok (.ireturn, 1) := by decide +kernel
theorem dX6_learn_0 : decode cX6_learn 0 = .ok (.aload_n 0, 1) := by decide +kernel
theorem dX6_learn_1 : decode cX6_learn 1 = .ok (.getfield 40, 3) := by decide +kernel
theorem dX6_learn_4 : decode cX6_learn 4 = .ok (.ifCond .eq 4, 3) := by decide +kernel
theorem dX6_learn_7 : decode cX6_learn 7 = .ok (.return_, 1) := by decide +kernel
theorem dX6_learn_8 : decode cX6_learn 8 = .ok (.aload_n 0, 1) := by decide +kernel
theorem dX6_learn_9 : decode cX6_learn 9 = .ok (.aload_n 0, 1) := by decide +kernel
theorem dX6_learn_10 : decode cX6_learn 10 = .ok (.getfield 30, 3) := by decide +kernel
theorem dX6_learn_13 : decode cX6_learn 13 = .ok (.invokevirtual 47, 3) := by decide +kernel
theorem dX6_learn_16 : decode cX6_learn 16 = .ok (.aload_n 0, 1) := by decide +kernel
theorem dX6_learn_17 : decode cX6_learn 17 = .ok (.aload_n 0, 1) := by decide +kernel
theorem dX6_learn_18 : decode cX6_learn 18 = .ok (.getfield 37, 3) := by decide +kernel
theorem dX6_learn_21 : decode cX6_learn 21 = .ok (.aload_n 0, 1) := by decide +kernel
theorem dX6_learn_22 : decode cX6_learn 22 = .ok (.getfield 30, 3) := by decide +kernel
theorem dX6_learn_25 : decode cX6_learn 25 = .ok (.invokevirtual 51, 3) := by decide +kernel
theorem dX6_learn_28 : decode cX6_learn 28 = .ok (.putfield 40, 3) := by decide +kernel
theorem dX6_learn_31 : decode cX6_learn 31 = .ok (.aload_n 0, 1) := by decide +kernel
theorem dX6_learn_32 : decode cX6_learn 32 = .ok (.getfield 30, 3) := by decide +kernel
theorem dX6_learn_35 : decode cX6_learn 35 = .ok (.astore_n 1, 1) := by decide +kernel
theorem dX6_learn_36 : decode cX6_learn 36 = .ok (.aload_n 0, 1) := by decide +kernel
theorem dX6_learn_37 : decode cX6_learn 37 = .ok (.aload_n 0, 1) := by decide +kernel
theorem dX6_learn_38 : decode cX6_learn 38 = .ok (.getfield 37, 3) := by decide +kernel
theorem dX6_learn_41 : decode cX6_learn 41 = .ok (.putfield 30, 3) := by decide +kernel
theorem dX6_learn_44 : decode cX6_learn 44 = .ok (.aload_n 0, 1) := by decide +kernel
theorem dX6_learn_45 : decode cX6_learn 45 = .ok (.aload_n 1, 1) := by decide +kernel
theorem dX6_learn_46 : decode cX6_learn 46 = .ok (.putfield 37, 3) := by decide +kernel
theorem dX6_learn_49 : decode cX6_learn 49 = .ok (.return_, 1) := by decide +kernel
theorem dX6_learnOnce_0 : decode cX6_learnOnce 0 = .ok (.iconst 0, 1) := by decide +kernel
theorem dX6_learnOnce_1 : decode cX6_learnOnce 1 = .ok (.istore_n 2, 1) := by decide +kernel
theorem dX6_learnOnce_2 : decode cX6_learnOnce 2 = .ok (.iload_n 2, 1) := by decide +kernel
theorem dX6_learnOnce_3 : decode cX6_learnOnce 3 = .ok (.aload_n 0, 1) := by decide +kernel
theorem dX6_learnOnce_4 : decode cX6_learnOnce 4 = .ok (.getfield 9, 3) := by decide +kernel
theorem dX6_learnOnce_7 : decode cX6_learnOnce 7 = .ok (.getfield 63, 3) := by decide +kernel
theorem dX6_learnOnce_10 : decode cX6_learnOnce 10 = .ok (.if_icmp .ge 35, 3) := by decide +kernel
theorem dX6_learnOnce_45 : decode cX6_learnOnce 45 = .ok (.return_, 1) := by decide +kernel
theorem dX7_refresh_0 : decode cX7_refresh 0 = .ok (.aload_n 0, 1) := by decide +kernel
theorem dX7_refresh_1 : decode cX7_refresh 1 = .ok (.getfield 29, 3) := by decide +kernel
theorem dX7_refresh_4 : decode cX7_refresh 4 = .ok (.ifCond .eq 4, 3) := by decide +kernel
theorem dX7_refresh_7 : decode cX7_refresh 7 = .ok (.return_, 1) := by decide +kernel
theorem dX7_refresh_8 : decode cX7_refresh 8 = .ok (.iconst 0, 1) := by decide +kernel
theorem dX7_refresh_9 : decode cX7_refresh 9 = .ok (.istore_n 1, 1) := by decide +kernel
theorem dX7_refresh_10 : decode cX7_refresh 10 = .ok (.iload_n 1, 1) := by decide +kernel
theorem dX7_refresh_11 : decode cX7_refresh 11 = .ok (.bipush 40, 2) := by decide +kernel
theorem dX7_refresh_13 : decode cX7_refresh 13 = .ok (.if_icmp .ge 35, 3) := by decide +kernel
theorem dX7_refresh_16 : decode cX7_refresh 16 = .ok (.aload_n 0, 1) := by decide +kernel
theorem dX7_refresh_17 : decode cX7_refresh 17 = .ok (.getfield 19, 3) := by decide +kernel
theorem dX7_refresh_20 : decode cX7_refresh 20 = .ok (.iload_n 1, 1) := by decide +kernel
theorem dX7_refresh_21 : decode cX7_refresh 21 = .ok (.aload_n 0, 1) := by decide +kernel
theorem dX7_refresh_22 : decode cX7_refresh 22 = .ok (.getfield 9, 3) := by decide +kernel
theorem dX7_refresh_25 : decode cX7_refresh 25 = .ok (.iload_n 1, 1) := by decide +kernel
theorem dX7_refresh_26 : decode cX7_refresh 26 = .ok (.invokevirtual 33, 3) := by decide +kernel
theorem dX7_refresh_29 : decode cX7_refresh 29 = .ok (.ifCond .eq 11, 3) := by decide +kernel
theorem dX7_refresh_40 : decode cX7_refresh 40 = .ok (.lconst 0, 1) := by decide +kernel
theorem dX7_refresh_41 : decode cX7_refresh 41 = .ok (.lastore, 1) := by decide +kernel
theorem dX7_refresh_42 : decode cX7_refresh 42 = .ok (.iinc 1 1, 3) := by decide +kernel
theorem dX7_refresh_45 : decode cX7_refresh 45 = .ok (.goto (-35), 3) := by decide +kernel
theorem dX7_refresh_48 : decode cX7_refresh 48 = .ok (.aload_n 0, 1) := by decide +kernel
theorem dX7_refresh_49 : decode cX7_refresh 49 = .ok (.iconst 1, 1) := by decide +kernel
theorem dX7_refresh_50 : decode cX7_refresh 50 = .ok (.putfield 29, 3) := by decide +kernel
theorem dX7_refresh_53 : decode cX7_refresh 53 = .ok (.return_, 1) := by decide +kernel
theorem dX8_isLike_0 : decode cX8_isLike 0 = .ok (.iconst 0, 1) := by decide +kernel
theorem dX8_isLike_1 : decode cX8_isLike 1 = .ok (.istore_n 2, 1) := by decide +kernel
theorem dX8_isLike_2 : decode cX8_isLike 2 = .ok (.iload_n 2, 1) := by decide +kernel
theorem dX8_isLike_3 : decode cX8_isLike 3 = .ok (.bipush 10, 2) := by decide +kernel
theorem dX8_isLike_5 : decode cX8_isLike 5 = .ok (.if_icmp .ge 77, 3) := by decide +kernel
theorem dX8_isLike_8 : decode cX8_isLike 8 = .ok (.aload_n 0, 1) := by decide +kernel
theorem dX8_isLike_9 : decode cX8_isLike 9 = .ok (.getfield 19, 3) := by decide +kernel
theorem dX8_isLike_12 : decode cX8_isLike 12 = .ok (.iload_n 2, 1) := by decide +kernel
theorem dX8_isLike_13 : decode cX8_isLike 13 = .ok (.iaload, 1) := by decide +kernel
theorem dX8_isLike_14 : decode cX8_isLike 14 = .ok (.aload_n 1, 1) := by decide +kernel
theorem dX8_isLike_15 : decode cX8_isLike 15 = .ok (.getfield 19, 3) := by decide +kernel
theorem dX8_isLike_18 : decode cX8_isLike 18 = .ok (.iload_n 2, 1) := by decide +kernel
theorem dX8_isLike_19 : decode cX8_isLike 19 = .ok (.iaload, 1) := by decide +kernel
theorem dX8_isLike_20 : decode cX8_isLike 20 = .ok (.if_icmp .eq 5, 3) := by decide +kernel
theorem dX8_isLike_25 : decode cX8_isLike 25 = .ok (.iconst 0, 1) := by decide +kernel
theorem dX8_isLike_26 : decode cX8_isLike 26 = .ok (.istore_n 3, 1) := by decide +kernel
theorem dX8_isLike_27 : decode cX8_isLike 27 = .ok (.iload_n 3, 1) := by decide +kernel
theorem dX8_isLike_28 : decode cX8_isLike 28 = .ok (.aload_n 0, 1) := by decide +kernel
theorem dX8_isLike_29 : decode cX8_isLike 29 = .ok (.getfield 19, 3) := by decide +kernel
theorem dX8_isLike_32 : decode cX8_isLike 32 = .ok (.iload_n 2, 1) := by decide +kernel
theorem dX8_isLike_33 : decode cX8_isLike 33 = .ok (.iaload, 1) := by decide +kernel
theorem dX8_isLike_34 : decode cX8_isLike 34 = .ok (.if_icmp .ge 42, 3) := by decide +kernel
theorem dX8_isLike_76 : decode cX8_isLike 76 = .ok (.iinc 2 1, 3) := by decide +kernel
theorem dX8_isLike_79 : decode cX8_isLike 79 = .ok (.goto (-77), 3) := by decide +kernel
theorem dX8_isLike_82 : decode cX8_isLike 82 = .ok (.iconst 1, 1) := by decide +kernel
theorem dX8_isLike_83 : decode cX8_isLike 83 = .ok (.ireturn, 1) := by decide +kernel
theorem dX9_passTick_0 : decode cX9_passTick 0 = .ok (.aload_n 0, 1) := by decide +kernel
theorem dX9_passTick_1 : decode cX9_passTick 1 = .ok (.dup, 1) := by decide +kernel
theorem dX9_passTick_2 : decode cX9_passTick 2 = .ok (.getfield 127, 3) := by decide +kernel
theorem dX9_passTick_5 : decode cX9_passTick 5 = .ok (.iconst 1, 1) := by decide +kernel
theorem dX9_passTick_6 : decode cX9_passTick 6 = .ok (.iadd, 1) := by decide +kernel
theorem dX9_passTick_7 : decode cX9_passTick 7 = .ok (.putfield 127, 3) := by decide +kernel
theorem dX9_passTick_10 : decode cX9_passTick 10 = .ok (.aload_n 0, 1) := by decide +kernel
theorem dX9_passTick_11 : decode cX9_passTick 11 = .ok (.getfield 15, 3) := by decide +kernel
theorem dX9_passTick_14 : decode cX9_passTick 14 = .ok (.invokevirtual 83, 3) := by decide +kernel
theorem dX9_passTick_17 : decode cX9_passTick 17 = .ok (.aload_n 0, 1) := by decide +kernel
theorem dX9_passTick_18 : decode cX9_passTick 18 = .ok (.getfield 27, 3) := by decide +kernel
theorem dX9_passTick_21 : decode cX9_passTick 21 = .ok (.invokevirtual 130, 3) := by decide +kernel
theorem dX9_passTick_24 : decode cX9_passTick 24 = .ok (.aload_n 0, 1) := by decide +kernel
theorem dX9_passTick_25 : decode cX9_passTick 25 = .ok (.getfield 133, 3) := by decide +kernel
theorem dX9_passTick_28 : decode cX9_passTick 28 = .ok (.istore_n 1, 1) := by decide +kernel
theorem dX9_passTick_29 : decode cX9_passTick 29 = .ok (.iconst 0, 1) := by decide +kernel
theorem dX9_passTick_30 : decode cX9_passTick 30 = .ok (.istore_n 2, 1) := by decide +kernel
theorem dX9_passTick_31 : decode cX9_passTick 31 = .ok (.iload_n 2, 1) := by decide +kernel
theorem dX9_passTick_32 : decode cX9_passTick 32 = .ok (.iload_n 1, 1) := by decide +kernel
theorem dX9_passTick_33 : decode cX9_passTick 33 = .ok (.if_icmp .ge 84, 3) := by decide +kernel
theorem dX9_passTick_117 : decode cX9_passTick 117 = .ok (.return_, 1) := by decide +kernel
theorem u_93 : Cond.fieldLink RX7 29 "DrystoneSimnet$Sight" "fresh" "Z" ∈ gU := gm (i := 93) (by decide +kernel) (by decide +kernel)
theorem u_266 : Cond.fieldLink RX6 40 "DrystoneSimnet$Routing" "stable" "Z" ∈ gU := gm (i := 266) (by decide +kernel) (by decide +kernel)
theorem u_358 : Cond.fieldLink RX9 127 "DrystoneSimnet$Traffic" "now" "I" ∈ gU := gm (i := 358) (by decide +kernel) (by decide +kernel)
theorem u_362 : Cond.fieldLink RX9 133 "DrystoneSimnet$Traffic" "onCables" "I" ∈ gU := gm (i := 362) (by decide +kernel) (by decide +kernel)
theorem u_729 : Cond.instanceMethod yX10_isStation ∈ gU := gm (i := 729) (by decide +kernel) (by decide +kernel)
theorem u_730 : Cond.selects RX10 yX10_isStation yX10_isStation ∈ gU := gm (i := 730) (by decide +kernel) (by decide +kernel)
theorem u_731 : Cond.code yX10_isStation cX10_isStation 2 (some .boolean) ∈ gU := gm (i := 731) (by decide +kernel) (by decide +kernel)
theorem u_734 : Cond.instanceMethod yX7_refresh ∈ gU := gm (i := 734) (by decide +kernel) (by decide +kernel)
theorem u_735 : Cond.selects RX7 yX7_refresh yX7_refresh ∈ gU := gm (i := 735) (by decide +kernel) (by decide +kernel)
theorem u_736 : Cond.code yX7_refresh cX7_refresh 2 none ∈ gU := gm (i := 736) (by decide +kernel) (by decide +kernel)
theorem u_737 : Cond.methodLink RX7 33 yX10_isStation ∈ gU := gm (i := 737) (by decide +kernel) (by decide +kernel)
theorem u_854 : Cond.methodLink RX9 83 yX7_refresh ∈ gU := gm (i := 854) (by decide +kernel) (by decide +kernel)
theorem u_896 : Cond.methodLink RL 62 yX11_tick ∈ gU := gm (i := 896) (by decide +kernel) (by decide +kernel)
theorem u_897 : Cond.instanceMethod yX11_tick ∈ gU := gm (i := 897) (by decide +kernel) (by decide +kernel)
theorem u_898 : Cond.selects RX11 yX11_tick yX11_tick ∈ gU := gm (i := 898) (by decide +kernel) (by decide +kernel)
theorem u_899 : Cond.code yX11_tick cX11_tick 3 (some .int) ∈ gU := gm (i := 899) (by decide +kernel) (by decide +kernel)
theorem u_900 : Cond.methodLink RX11 172 yX9_passTick ∈ gU := gm (i := 900) (by decide +kernel) (by decide +kernel)
theorem u_901 : Cond.instanceMethod yX9_passTick ∈ gU := gm (i := 901) (by decide +kernel) (by decide +kernel)
theorem u_902 : Cond.selects RX9 yX9_passTick yX9_passTick ∈ gU := gm (i := 902) (by decide +kernel) (by decide +kernel)
theorem u_903 : Cond.code yX9_passTick cX9_passTick 4 none ∈ gU := gm (i := 903) (by decide +kernel) (by decide +kernel)
theorem u_904 : Cond.methodLink RX9 130 yX6_learn ∈ gU := gm (i := 904) (by decide +kernel) (by decide +kernel)
theorem u_905 : Cond.instanceMethod yX6_learn ∈ gU := gm (i := 905) (by decide +kernel) (by decide +kernel)
theorem u_906 : Cond.selects RX6 yX6_learn yX6_learn ∈ gU := gm (i := 906) (by decide +kernel) (by decide +kernel)
theorem u_907 : Cond.code yX6_learn cX6_learn 2 none ∈ gU := gm (i := 907) (by decide +kernel) (by decide +kernel)
theorem u_908 : Cond.methodLink RX6 47 yX6_learnOnce ∈ gU := gm (i := 908) (by decide +kernel) (by decide +kernel)
theorem u_910 : Cond.instanceMethod yX6_learnOnce ∈ gU := gm (i := 910) (by decide +kernel) (by decide +kernel)
theorem u_911 : Cond.code yX6_learnOnce cX6_learnOnce 3 none ∈ gU := gm (i := 911) (by decide +kernel) (by decide +kernel)
theorem u_936 : Cond.methodLink RX6 51 yX8_isLike ∈ gU := gm (i := 936) (by decide +kernel) (by decide +kernel)
theorem u_937 : Cond.instanceMethod yX8_isLike ∈ gU := gm (i := 937) (by decide +kernel) (by decide +kernel)
theorem u_938 : Cond.selects RX8 yX8_isLike yX8_isLike ∈ gU := gm (i := 938) (by decide +kernel) (by decide +kernel)
theorem u_939 : Cond.code yX8_isLike cX8_isLike 5 (some .boolean) ∈ gU := gm (i := 939) (by decide +kernel) (by decide +kernel)
theorem v_17 : Cond.selects RX6 yX6_learnOnce yX6_learnOnce ∈ gU := gp (i := 17) (q := (yX6_learnOnce, 9)) (by decide +kernel) (by decide +kernel)
set_option maxHeartbeats 4000000 in
set_option maxRecDepth 100000 in
theorem lp_refresh {p : Program} {l : Launch} {e : Env} {R : Room} {s : State} {m : MethodId} {args : Array Value} {below : List Frame} {meth : Method} {c : Code} {Q : State → Prop} {dC : Nat → ClassId} {dI : Nat → Nat → Nat} {A : Nat → Prop} {cells slots : Nat} {h0 w sn kd : Nat} {gS gW : Nat → Nat} {fr : Int32} {cS : ClassId} (hx : p.tables.exec = Jvm.exec) (hb : c.code = cX7_refresh) (hml : c.maxLocals = 2) (hown : s.vm.findClass RX7 = some m.cls) (hts : ∀ w ∈ gU, w.before args s = true) (hE : gEnv s) (hA : ∀ q : Nat, s.heap.size ≤ q → A q) (hK : va_K (dC, dI) vwCl [(cS, .long)] s)   (hRc : cells ≤ R.cells) (hRs : slots ≤ R.slots) (hRf : 3 ≤ R.frames) (hRl : 65 ≤ R.locals)
    (kk : ∀ (f : Nat → Int64), ∀ (H : Heap) (locs : List Loc), va_P (dC, dI) vwCl [(h0, .inr (7, oS w sn gS fr)), (sn, .inl (cS, 40, .inr (.inl f))), (w, .inr (10, oW kd gW 0 0))] H → va_D A [(h0, .inr (7, oS w sn gS fr)), (sn, .inl (cS, 40, .inr (.inl f))), (w, .inr (10, oW kd gW 0 0))] → va_S A s.heap H locs → ∀ ls : Array Slot, lv_has ls 2 [(0, .ref h0), (1, .int (nI 40))] → W p l e R s m args below meth c H locs cells slots Q (F0 m 48 ls [])) :
    ∀ (n i : Nat) (x : Int32) (f : Nat → Int64), i ≤ 40 → 40 + 1 ≤ i + n → x = nI i → ∀ (H : Heap) (locs : List Loc), va_P (dC, dI) vwCl [(h0, .inr (7, oS w sn gS fr)), (sn, .inl (cS, 40, .inr (.inl f))), (w, .inr (10, oW kd gW 0 0))] H → va_D A [(h0, .inr (7, oS w sn gS fr)), (sn, .inl (cS, 40, .inr (.inl f))), (w, .inr (10, oW kd gW 0 0))] → va_S A s.heap H locs → ∀ ls : Array Slot, lv_has ls 2 [(0, .ref h0), (1, .int x)] → W p l e R s m args below meth c H locs cells slots Q (F0 m 10 ls []) := by
  intro n
  induction n with
  | zero => intro i x f h1 h2; exact absurd h2 (by omega)
  | succ n ih =>
    intro i x f hi hin ex   H locs hP hD hS ls hl
    refine lv_iload_n hx hb dX7_refresh_10 rfl (lv_at hl 1 rfl) ?_
    refine lv_bipush (v := 40) hx hb dX7_refresh_11 (by decide) ?_
    refine lv_icmp_ge (tgt := 48) hx hb dX7_refresh_13 (by decide) (fun c9 => ?_) (fun c9 => ?_)
    · have hiN := lpE (N := 40) ex (by omega) hi c9
      subst hiN
      subst ex
      exact kk f   _ _ hP hD hS ls hl
    · have hiL := lpL (N := 40) ex hi (by omega) c9
      refine lv_aload_n hx hb dX7_refresh_16 rfl (lv_at hl 0 rfl) ?_
      refine va_get (D := (dC, dI)) (ci := 7) (v := .ref sn) (C := RX7) (T := TX7) (N := 6) hx hb hts gX7 hown hK hP 0 rfl rfl 2 (by decide) (hts _ u_91) (fun _ h9 => h9) rfl dX7_refresh_17 ?_
      refine lv_iload_n hx hb dX7_refresh_20 rfl (lv_at hl 1 rfl) ?_
      refine lv_aload_n hx hb dX7_refresh_21 rfl (lv_at hl 0 rfl) ?_
      refine va_get (D := (dC, dI)) (ci := 7) (v := .ref w) (C := RX7) (T := TX7) (N := 6) hx hb hts gX7 hown hK hP 0 rfl rfl 0 (by decide) (hts _ u_88) (fun _ h9 => h9) rfl dX7_refresh_22 ?_
      refine lv_iload_n hx hb dX7_refresh_25 rfl (lv_at hl 1 rfl) ?_
      have hPc := hP.sub (ws' := [(w, .inr (10, oW kd gW 0 0))]) [2] rfl
      have hDc := hD.sub (ws' := [(w, .inr (10, oW kd gW 0 0))]) [2] (by decide) rfl
      have hKc := hK.sub (tys' := []) [] rfl
      have hFc := roF hS hA
      refine va_calli (va_runV (As := [.int x]) (rest := [.int x, .ref sn]) ⟨hx, hb, hml, hown, hts⟩ (c_X10_isStation l dC dI H.size w kd gW x) (cwV 1 hts (gV u_737 u_729 u_730 u_2 u_731) rfl rfl rfl (by decide +kernel) ⟨Nat.le_trans (Nat.le_of_ble_eq_true rfl) hRf, Nat.le_trans (Nat.le_of_ble_eq_true rfl) hRl⟩) ⟨gP_blind, va_recv hKc hPc (ci := 10) (q0 := 0) rfl rfl, gP_call hPc hKc hDc hE⟩ rfl rfl hl.1 rfl (lv_room (Nat.le_of_ble_eq_true rfl)) dX7_refresh_26 ⟨(by omega), (by omega)⟩) hS (fun q _ h => hFc q h) hFc (fun r880 u9 t9 H879 locs ht hvm hw hB hz1 hk1 hS => ?_)
      have hP := roP hP hk1
      subst hw
      refine lv_if_eq (tgt := 40) hx hb dX7_refresh_29 (by decide) (fun _ => ?_) (fun h9 => absurd (by decide) h9)
      refine lv_lconst (v := 0) hx hb dX7_refresh_40 (by decide) ?_
      refine va_last hx hb hK hP hD hS 1 0 rfl rfl (by rw [ex]; exact vp_in_nI (by omega) (by omega)) dX7_refresh_41 (fun H881 locs hP hD hS => ?_)
      generalize hff882 : vp_updL f (x).toNatClampNeg 0 = f882 at hP hD
      have hP : va_P (dC, dI) vwCl [(h0, .inr (7, oS w sn gS fr)), (sn, .inl (cS, 40, .inr (.inl f882))), (w, .inr (10, oW kd gW 0 0))] H881 := hP
      have hD : va_D A [(h0, .inr (7, oS w sn gS fr)), (sn, .inl (cS, 40, .inr (.inl f882))), (w, .inr (10, oW kd gW 0 0))] := hD
      obtain ⟨x883, ex883⟩ : ∃ y : Int32, y = x + 1 := ⟨_, rfl⟩
      refine lv_iinc (v := x883) (lv' := [(1, .int x883), (0, .ref h0)]) hx hb dX7_refresh_42 hl (k := 1) rfl (by rw [ex883]; rfl) (by decide) rfl (fun ls hl => ?_)
      refine lv_goto (tgt := 10) hx hb dX7_refresh_45 (by decide) ?_
      exact ih (i + 1) x883 f882 hiL (by omega) (by rw [ex883, ex]; exact nI_1 i)   _ _ hP hD hS ls (lv_sub hl [1, 0] rfl)
set_option maxHeartbeats 4000000 in
set_option maxRecDepth 100000 in
theorem c_X7_refresh (l : Launch) (dC : Nat → ClassId) (dI : Nat → Nat → Nat) (sz : Nat) (h0 : Nat) (w : Nat) (kd : Nat) (gW : Nat → Nat) (sn : Nat) (cS : ClassId) (gS : Nat → Nat) (fr : Int32) (f : Nat → Int64) : Met l yX7_refresh (Cond.code yX7_refresh cX7_refresh 2 none :: gU) ({ frames := 4, cells := 0, slots := 0, locals := 100 }) (gP dC dI sz [(h0, .inr (7, oS w sn gS fr)), (sn, .inl (cS, 40, .inr (.inl f))), (w, .inr (10, oW kd gW 0 0))] [(cS, .long)] [.ref h0]) (va_Qv (fun (_ : Unit) => True) (fun (_ : Unit) (t9 : State) => ∃ (fr2 : Int32), ∃ (f2 : Nat → Int64), va_P (dC, dI) vwCl [(h0, .inr (7, oS w sn gS fr2)), (sn, .inl (cS, 40, .inr (.inl f2))), (w, .inr (10, oW kd gW 0 0))] t9.heap ∧ va_K (dC, dI) vwCl [(cS, .long)] t9 ∧ va_D (va_A [(h0, .inr (7, oS w sn gS fr)), (sn, .inl (cS, 40, .inr (.inl f))), (w, .inr (10, oW kd gW 0 0))] sz) [(h0, .inr (7, oS w sn gS fr2)), (sn, .inl (cS, 40, .inr (.inl f2))), (w, .inr (10, oW kd gW 0 0))]) (va_A [(h0, .inr (7, oS w sn gS fr)), (sn, .inl (cS, 40, .inr (.inl f))), (w, .inr (10, oW kd gW 0 0))] sz)) 0 0 (va_A [(h0, .inr (7, oS w sn gS fr)), (sn, .inl (cS, 40, .inr (.inl f))), (w, .inr (10, oW kd gW 0 0))] sz) := by
  refine Met.ofW (cc := cX7_refresh) (maxL := 2) (ret := none) (by decide) rfl ?_
  intro p e s m args below meth c s₁ B hml hv
  obtain ⟨rfl, hsz, hP, hK, hD0, hE⟩ := hv
  have hx := B.exec
  have hb := B.bytes
  have hr := B.returns
  have hts0 := atoms_spec (ws := Cond.code yX7_refresh cX7_refresh 2 none :: gU) B.pre
  have hts : ∀ w ∈ gU, w.before _ s = true := fun w h => hts0 w (List.mem_cons_of_mem _ h)
  have hown : s.vm.findClass RX7 = some m.cls := findClass_of_methodNamed B.named
  have hlocks := B.notSynchronized
  subst hsz
  have hD := hD0.self (sz := s.heap.size)
  generalize hAe : va_A [(h0, .inr (7, oS w sn gS fr)), (sn, .inl (cS, 40, .inr (.inl f))), (w, .inr (10, oW kd gW 0 0))] s.heap.size = A at hD ⊢
  have hA : ∀ q : Nat, s.heap.size ≤ q → A q := fun q h => by rw [← hAe]; exact Or.inr h
  have hS : va_S A s.heap s.heap [] := va_S.rf
  have hP : va_P (dC, dI) vwCl [(h0, .inr (7, oS w sn gS fr)), (sn, .inl (cS, 40, .inr (.inl f))), (w, .inr (10, oW kd gW 0 0))] s.heap := hP
  have hl := lv_entry ([.ref h0]) (n := 2) (Nat.le_of_ble_eq_true rfl)
  rw [lg_entry_eq]
  generalize (lg_sl ([.ref h0]) ++ List.replicate (2 - (lg_sl ([.ref h0])).length) Slot.unset).toArray = ls at hl ⊢
  have hl : lv_has ls 2 [(0, .ref h0)] := hl
  refine lv_aload_n hx hb dX7_refresh_0 rfl (lv_at hl 0 rfl) ?_
  refine va_get (D := (dC, dI)) (ci := 7) (v := .int fr) (C := RX7) (T := TX7) (N := 6) hx hb hts gX7 hown hK hP 0 rfl rfl 3 (by decide) (hts _ u_93) (fun _ h9 => h9) rfl dX7_refresh_1 ?_
  refine lv_if_eq (tgt := 8) hx hb dX7_refresh_4 (by decide) (fun h1 => ?_) (fun h1 => ?_)
  · refine lv_iconst (v := 0) hx hb dX7_refresh_8 (by decide) ?_
    refine lv_istore_n (lv' := [(1, .int 0), (0, .ref h0)]) hx hb dX7_refresh_9 rfl hl (by decide) rfl (fun ls hl => ?_)
    refine lp_refresh hx hb hml hown hts hE hA hK (Nat.le_of_ble_eq_true rfl) (Nat.le_of_ble_eq_true rfl) (Nat.le_of_ble_eq_true rfl) (Nat.le_of_ble_eq_true rfl) (fun f884 H885 locs hP hD hS ls hl => ?_) 41 0 0 f (Nat.zero_le 40) (by omega) nI_0.symm _ _ hP hD hS ls (lv_sub hl [1, 0] rfl)
    have hP : va_P (dC, dI) vwCl [(h0, .inr (7, oS w sn gS fr)), (sn, .inl (cS, 40, .inr (.inl f884))), (w, .inr (10, oW kd gW 0 0))] H885 := hP
    have hD : va_D A [(h0, .inr (7, oS w sn gS fr)), (sn, .inl (cS, 40, .inr (.inl f884))), (w, .inr (10, oW kd gW 0 0))] := hD
    refine lv_aload_n hx hb dX7_refresh_48 rfl (lv_at hl 0 rfl) ?_
    refine lv_iconst (v := 1) hx hb dX7_refresh_49 (by decide) ?_
    refine va_put (D := (dC, dI)) (ci := 7) (v := .int 1) (ty := .boolean) (C := RX7) (T := TX7) (N := 6) hx hb hts gX7 tyX7 tyX7_ok nmX7 hown hK hP hD hS 0 rfl rfl 3 (by decide) (hts _ u_93) (fun _ h9 => h9) rfl (by decide +kernel) rfl rfl (Nat.le_of_ble_eq_true rfl) dX7_refresh_50 (fun H886 locs hP hD hS => ?_)
    have hP : va_P (dC, dI) vwCl [(h0, .inr (7, oS w sn gS 1)), (sn, .inl (cS, 40, .inr (.inl f884))), (w, .inr (10, oW kd gW 0 0))] H886 := hP
    have hD : va_D A [(h0, .inr (7, oS w sn gS 1)), (sn, .inl (cS, 40, .inr (.inl f884))), (w, .inr (10, oW kd gW 0 0))] := hD
    refine W.widen (k := 0) (n := 0) (Nat.le_of_ble_eq_true rfl) (Nat.le_of_ble_eq_true rfl) ?_
    exact W.vret hx hb hr (fun t ht hW => ⟨⟨(), rfl, trivial, ⟨1, f884, by rw [ht]; exact hP, va_K.moved hW.alike hK, hD⟩⟩, hS.F ht⟩) hS.2.2 dX7_refresh_53
  · refine W.widen (k := 0) (n := 0) (Nat.le_of_ble_eq_true rfl) (Nat.le_of_ble_eq_true rfl) ?_
    exact W.vret hx hb hr (fun t ht hW => ⟨⟨(), rfl, trivial, ⟨fr, f, by rw [ht]; exact hP, va_K.moved hW.alike hK, hD⟩⟩, hS.F ht⟩) hS.2.2 dX7_refresh_7
set_option maxHeartbeats 4000000 in
set_option maxRecDepth 100000 in
theorem c_X8_isLike (l : Launch) (dC : Nat → ClassId) (dI : Nat → Nat → Nat) (sz : Nat) (h0 : Nat) (o : Nat) (c1 : Nat) (cC1 : ClassId) (gB1 : Nat → Nat) (c2 : Nat) (cC2 : ClassId) (gB2 : Nat → Nat) : Met l yX8_isLike (Cond.code yX8_isLike cX8_isLike 5 (some .boolean) :: gU) ({ frames := 0, cells := 0, slots := 0, locals := 0 }) (gP dC dI sz [(h0, .inr (8, oB c1 gB1)), (c1, .inl (cC1, 10, .inl (fun _ => 0))), (o, .inr (8, oB c2 gB2)), (c2, .inl (cC2, 10, .inl (fun _ => 0)))] [(cC1, .int), (cC2, .int)] [.ref h0, .ref o]) (va_Qi (fun (r : Int32) (_ : Unit) => r = 1) (fun _ _ => True) (va_A [] sz)) 0 0 (va_A [] sz) := by
  refine Met.ofW (cc := cX8_isLike) (maxL := 5) (ret := (some .boolean)) (by decide) rfl ?_
  intro p e s m args below meth c s₁ B hml hv
  obtain ⟨rfl, hsz, hP, hK, hD0, hE⟩ := hv
  have hx := B.exec
  have hb := B.bytes
  have hr := B.returns
  have hts0 := atoms_spec (ws := Cond.code yX8_isLike cX8_isLike 5 (some .boolean) :: gU) B.pre
  have hts : ∀ w ∈ gU, w.before _ s = true := fun w h => hts0 w (List.mem_cons_of_mem _ h)
  have hown : s.vm.findClass RX8 = some m.cls := findClass_of_methodNamed B.named
  have hlocks := B.notSynchronized
  subst hsz
  have hD := hD0
  generalize hAe : va_A [] s.heap.size = A at ⊢
  have hA : ∀ q : Nat, s.heap.size ≤ q → A q := fun q h => by rw [← hAe]; exact Or.inr h
  have hS : va_S A s.heap s.heap [] := va_S.rf
  have hP : va_P (dC, dI) vwCl [(h0, .inr (8, oB c1 gB1)), (c1, .inl (cC1, 10, .inl (fun _ => 0))), (o, .inr (8, oB c2 gB2)), (c2, .inl (cC2, 10, .inl (fun _ => 0)))] s.heap := hP
  have hl := lv_entry ([.ref h0, .ref o]) (n := 5) (Nat.le_of_ble_eq_true rfl)
  rw [lg_entry_eq]
  generalize (lg_sl ([.ref h0, .ref o]) ++ List.replicate (5 - (lg_sl ([.ref h0, .ref o])).length) Slot.unset).toArray = ls at hl ⊢
  have hl : lv_has ls 5 [(0, .ref h0), (1, .ref o)] := hl
  refine lv_iconst (v := 0) hx hb dX8_isLike_0 (by decide) ?_
  refine lv_istore_n (lv' := [(2, .int 0), (0, .ref h0), (1, .ref o)]) hx hb dX8_isLike_1 rfl hl (by decide) rfl (fun ls hl => ?_)
  refine lv_iload_n hx hb dX8_isLike_2 rfl (lv_at hl 0 rfl) ?_
  refine lv_bipush (v := 10) hx hb dX8_isLike_3 (by decide) ?_
  refine lv_icmp_ge (tgt := 82) hx hb dX8_isLike_5 (by decide) (fun h9 => absurd h9 (by decide)) (fun _ => ?_)
  refine lv_aload_n hx hb dX8_isLike_8 rfl (lv_at hl 1 rfl) ?_
  refine va_get (D := (dC, dI)) (ci := 8) (v := .ref c1) (C := RX8) (T := TX8) (N := 3) hx hb hts gX8 hown hK hP 0 rfl rfl 2 (by decide) (hts _ u_247) (fun _ h9 => h9) rfl dX8_isLike_9 ?_
  refine lv_iload_n hx hb dX8_isLike_12 rfl (lv_at hl 0 rfl) ?_
  refine va_iald hx hb hK hP 1 0 rfl rfl (by unfold vp_in; decide) dX8_isLike_13 ?_
  refine lv_aload_n hx hb dX8_isLike_14 rfl (lv_at hl 2 rfl) ?_
  refine va_get (D := (dC, dI)) (ci := 8) (v := .ref c2) (C := RX8) (T := TX8) (N := 3) hx hb hts gX8 hown hK hP 2 rfl rfl 2 (by decide) (hts _ u_247) (fun _ h9 => h9) rfl dX8_isLike_15 ?_
  refine lv_iload_n hx hb dX8_isLike_18 rfl (lv_at hl 0 rfl) ?_
  refine va_iald hx hb hK hP 3 1 rfl rfl (by unfold vp_in; decide) dX8_isLike_19 ?_
  refine lv_icmp_eq (tgt := 25) hx hb dX8_isLike_20 (by decide) (fun _ => ?_) (fun h9 => absurd (by decide) h9)
  refine lv_iconst (v := 0) hx hb dX8_isLike_25 (by decide) ?_
  refine lv_istore_n (lv' := [(3, .int 0), (2, .int 0), (0, .ref h0), (1, .ref o)]) hx hb dX8_isLike_26 rfl hl (by decide) rfl (fun ls hl => ?_)
  refine lv_iload_n hx hb dX8_isLike_27 rfl (lv_at hl 0 rfl) ?_
  refine lv_aload_n hx hb dX8_isLike_28 rfl (lv_at hl 2 rfl) ?_
  refine va_get (D := (dC, dI)) (ci := 8) (v := .ref c1) (C := RX8) (T := TX8) (N := 3) hx hb hts gX8 hown hK hP 0 rfl rfl 2 (by decide) (hts _ u_247) (fun _ h9 => h9) rfl dX8_isLike_29 ?_
  refine lv_iload_n hx hb dX8_isLike_32 rfl (lv_at hl 1 rfl) ?_
  refine va_iald hx hb hK hP 1 0 rfl rfl (by unfold vp_in; decide) dX8_isLike_33 ?_
  refine lv_icmp_ge (tgt := 76) hx hb dX8_isLike_34 (by decide) (fun _ => ?_) (fun h9 => absurd (by decide) h9)
  refine lv_iinc (v := 1) (lv' := [(2, .int 1), (3, .int 0), (0, .ref h0), (1, .ref o)]) hx hb dX8_isLike_76 hl (k := 1) rfl (by decide) (by decide) rfl (fun ls hl => ?_)
  refine lv_goto (tgt := 2) hx hb dX8_isLike_79 (by decide) ?_
  refine lv_iload_n hx hb dX8_isLike_2 rfl (lv_at hl 0 rfl) ?_
  refine lv_bipush (v := 10) hx hb dX8_isLike_3 (by decide) ?_
  refine lv_icmp_ge (tgt := 82) hx hb dX8_isLike_5 (by decide) (fun h9 => absurd h9 (by decide)) (fun _ => ?_)
  refine lv_aload_n hx hb dX8_isLike_8 rfl (lv_at hl 2 rfl) ?_
  refine va_get (D := (dC, dI)) (ci := 8) (v := .ref c1) (C := RX8) (T := TX8) (N := 3) hx hb hts gX8 hown hK hP 0 rfl rfl 2 (by decide) (hts _ u_247) (fun _ h9 => h9) rfl dX8_isLike_9 ?_
  refine lv_iload_n hx hb dX8_isLike_12 rfl (lv_at hl 0 rfl) ?_
  refine va_iald hx hb hK hP 1 0 rfl rfl (by unfold vp_in; decide) dX8_isLike_13 ?_
  refine lv_aload_n hx hb dX8_isLike_14 rfl (lv_at hl 3 rfl) ?_
  refine va_get (D := (dC, dI)) (ci := 8) (v := .ref c2) (C := RX8) (T := TX8) (N := 3) hx hb hts gX8 hown hK hP 2 rfl rfl 2 (by decide) (hts _ u_247) (fun _ h9 => h9) rfl dX8_isLike_15 ?_
  refine lv_iload_n hx hb dX8_isLike_18 rfl (lv_at hl 0 rfl) ?_
  refine va_iald hx hb hK hP 3 1 rfl rfl (by unfold vp_in; decide) dX8_isLike_19 ?_
  refine lv_icmp_eq (tgt := 25) hx hb dX8_isLike_20 (by decide) (fun _ => ?_) (fun h9 => absurd (by decide) h9)
  refine lv_iconst (v := 0) hx hb dX8_isLike_25 (by decide) ?_
  refine lv_istore_n (lv' := [(3, .int 0), (2, .int 1), (0, .ref h0), (1, .ref o)]) hx hb dX8_isLike_26 rfl hl (by decide) rfl (fun ls hl => ?_)
  refine lv_iload_n hx hb dX8_isLike_27 rfl (lv_at hl 0 rfl) ?_
  refine lv_aload_n hx hb dX8_isLike_28 rfl (lv_at hl 2 rfl) ?_
  refine va_get (D := (dC, dI)) (ci := 8) (v := .ref c1) (C := RX8) (T := TX8) (N := 3) hx hb hts gX8 hown hK hP 0 rfl rfl 2 (by decide) (hts _ u_247) (fun _ h9 => h9) rfl dX8_isLike_29 ?_
  refine lv_iload_n hx hb dX8_isLike_32 rfl (lv_at hl 1 rfl) ?_
  refine va_iald hx hb hK hP 1 0 rfl rfl (by unfold vp_in; decide) dX8_isLike_33 ?_
  refine lv_icmp_ge (tgt := 76) hx hb dX8_isLike_34 (by decide) (fun _ => ?_) (fun h9 => absurd (by decide) h9)
  refine lv_iinc (v := 2) (lv' := [(2, .int 2), (3, .int 0), (0, .ref h0), (1, .ref o)]) hx hb dX8_isLike_76 hl (k := 1) rfl (by decide) (by decide) rfl (fun ls hl => ?_)
  refine lv_goto (tgt := 2) hx hb dX8_isLike_79 (by decide) ?_
  refine lv_iload_n hx hb dX8_isLike_2 rfl (lv_at hl 0 rfl) ?_
  refine lv_bipush (v := 10) hx hb dX8_isLike_3 (by decide) ?_
  refine lv_icmp_ge (tgt := 82) hx hb dX8_isLike_5 (by decide) (fun h9 => absurd h9 (by decide)) (fun _ => ?_)
  refine lv_aload_n hx hb dX8_isLike_8 rfl (lv_at hl 2 rfl) ?_
  refine va_get (D := (dC, dI)) (ci := 8) (v := .ref c1) (C := RX8) (T := TX8) (N := 3) hx hb hts gX8 hown hK hP 0 rfl rfl 2 (by decide) (hts _ u_247) (fun _ h9 => h9) rfl dX8_isLike_9 ?_
  refine lv_iload_n hx hb dX8_isLike_12 rfl (lv_at hl 0 rfl) ?_
  refine va_iald hx hb hK hP 1 0 rfl rfl (by unfold vp_in; decide) dX8_isLike_13 ?_
  refine lv_aload_n hx hb dX8_isLike_14 rfl (lv_at hl 3 rfl) ?_
  refine va_get (D := (dC, dI)) (ci := 8) (v := .ref c2) (C := RX8) (T := TX8) (N := 3) hx hb hts gX8 hown hK hP 2 rfl rfl 2 (by decide) (hts _ u_247) (fun _ h9 => h9) rfl dX8_isLike_15 ?_
  refine lv_iload_n hx hb dX8_isLike_18 rfl (lv_at hl 0 rfl) ?_
  refine va_iald hx hb hK hP 3 1 rfl rfl (by unfold vp_in; decide) dX8_isLike_19 ?_
  refine lv_icmp_eq (tgt := 25) hx hb dX8_isLike_20 (by decide) (fun _ => ?_) (fun h9 => absurd (by decide) h9)
  refine lv_iconst (v := 0) hx hb dX8_isLike_25 (by decide) ?_
  refine lv_istore_n (lv' := [(3, .int 0), (2, .int 2), (0, .ref h0), (1, .ref o)]) hx hb dX8_isLike_26 rfl hl (by decide) rfl (fun ls hl => ?_)
  refine lv_iload_n hx hb dX8_isLike_27 rfl (lv_at hl 0 rfl) ?_
  refine lv_aload_n hx hb dX8_isLike_28 rfl (lv_at hl 2 rfl) ?_
  refine va_get (D := (dC, dI)) (ci := 8) (v := .ref c1) (C := RX8) (T := TX8) (N := 3) hx hb hts gX8 hown hK hP 0 rfl rfl 2 (by decide) (hts _ u_247) (fun _ h9 => h9) rfl dX8_isLike_29 ?_
  refine lv_iload_n hx hb dX8_isLike_32 rfl (lv_at hl 1 rfl) ?_
  refine va_iald hx hb hK hP 1 0 rfl rfl (by unfold vp_in; decide) dX8_isLike_33 ?_
  refine lv_icmp_ge (tgt := 76) hx hb dX8_isLike_34 (by decide) (fun _ => ?_) (fun h9 => absurd (by decide) h9)
  refine lv_iinc (v := 3) (lv' := [(2, .int 3), (3, .int 0), (0, .ref h0), (1, .ref o)]) hx hb dX8_isLike_76 hl (k := 1) rfl (by decide) (by decide) rfl (fun ls hl => ?_)
  refine lv_goto (tgt := 2) hx hb dX8_isLike_79 (by decide) ?_
  refine lv_iload_n hx hb dX8_isLike_2 rfl (lv_at hl 0 rfl) ?_
  refine lv_bipush (v := 10) hx hb dX8_isLike_3 (by decide) ?_
  refine lv_icmp_ge (tgt := 82) hx hb dX8_isLike_5 (by decide) (fun h9 => absurd h9 (by decide)) (fun _ => ?_)
  refine lv_aload_n hx hb dX8_isLike_8 rfl (lv_at hl 2 rfl) ?_
  refine va_get (D := (dC, dI)) (ci := 8) (v := .ref c1) (C := RX8) (T := TX8) (N := 3) hx hb hts gX8 hown hK hP 0 rfl rfl 2 (by decide) (hts _ u_247) (fun _ h9 => h9) rfl dX8_isLike_9 ?_
  refine lv_iload_n hx hb dX8_isLike_12 rfl (lv_at hl 0 rfl) ?_
  refine va_iald hx hb hK hP 1 0 rfl rfl (by unfold vp_in; decide) dX8_isLike_13 ?_
  refine lv_aload_n hx hb dX8_isLike_14 rfl (lv_at hl 3 rfl) ?_
  refine va_get (D := (dC, dI)) (ci := 8) (v := .ref c2) (C := RX8) (T := TX8) (N := 3) hx hb hts gX8 hown hK hP 2 rfl rfl 2 (by decide) (hts _ u_247) (fun _ h9 => h9) rfl dX8_isLike_15 ?_
  refine lv_iload_n hx hb dX8_isLike_18 rfl (lv_at hl 0 rfl) ?_
  refine va_iald hx hb hK hP 3 1 rfl rfl (by unfold vp_in; decide) dX8_isLike_19 ?_
  refine lv_icmp_eq (tgt := 25) hx hb dX8_isLike_20 (by decide) (fun _ => ?_) (fun h9 => absurd (by decide) h9)
  refine lv_iconst (v := 0) hx hb dX8_isLike_25 (by decide) ?_
  refine lv_istore_n (lv' := [(3, .int 0), (2, .int 3), (0, .ref h0), (1, .ref o)]) hx hb dX8_isLike_26 rfl hl (by decide) rfl (fun ls hl => ?_)
  refine lv_iload_n hx hb dX8_isLike_27 rfl (lv_at hl 0 rfl) ?_
  refine lv_aload_n hx hb dX8_isLike_28 rfl (lv_at hl 2 rfl) ?_
  refine va_get (D := (dC, dI)) (ci := 8) (v := .ref c1) (C := RX8) (T := TX8) (N := 3) hx hb hts gX8 hown hK hP 0 rfl rfl 2 (by decide) (hts _ u_247) (fun _ h9 => h9) rfl dX8_isLike_29 ?_
  refine lv_iload_n hx hb dX8_isLike_32 rfl (lv_at hl 1 rfl) ?_
  refine va_iald hx hb hK hP 1 0 rfl rfl (by unfold vp_in; decide) dX8_isLike_33 ?_
  refine lv_icmp_ge (tgt := 76) hx hb dX8_isLike_34 (by decide) (fun _ => ?_) (fun h9 => absurd (by decide) h9)
  refine lv_iinc (v := 4) (lv' := [(2, .int 4), (3, .int 0), (0, .ref h0), (1, .ref o)]) hx hb dX8_isLike_76 hl (k := 1) rfl (by decide) (by decide) rfl (fun ls hl => ?_)
  refine lv_goto (tgt := 2) hx hb dX8_isLike_79 (by decide) ?_
  refine lv_iload_n hx hb dX8_isLike_2 rfl (lv_at hl 0 rfl) ?_
  refine lv_bipush (v := 10) hx hb dX8_isLike_3 (by decide) ?_
  refine lv_icmp_ge (tgt := 82) hx hb dX8_isLike_5 (by decide) (fun h9 => absurd h9 (by decide)) (fun _ => ?_)
  refine lv_aload_n hx hb dX8_isLike_8 rfl (lv_at hl 2 rfl) ?_
  refine va_get (D := (dC, dI)) (ci := 8) (v := .ref c1) (C := RX8) (T := TX8) (N := 3) hx hb hts gX8 hown hK hP 0 rfl rfl 2 (by decide) (hts _ u_247) (fun _ h9 => h9) rfl dX8_isLike_9 ?_
  refine lv_iload_n hx hb dX8_isLike_12 rfl (lv_at hl 0 rfl) ?_
  refine va_iald hx hb hK hP 1 0 rfl rfl (by unfold vp_in; decide) dX8_isLike_13 ?_
  refine lv_aload_n hx hb dX8_isLike_14 rfl (lv_at hl 3 rfl) ?_
  refine va_get (D := (dC, dI)) (ci := 8) (v := .ref c2) (C := RX8) (T := TX8) (N := 3) hx hb hts gX8 hown hK hP 2 rfl rfl 2 (by decide) (hts _ u_247) (fun _ h9 => h9) rfl dX8_isLike_15 ?_
  refine lv_iload_n hx hb dX8_isLike_18 rfl (lv_at hl 0 rfl) ?_
  refine va_iald hx hb hK hP 3 1 rfl rfl (by unfold vp_in; decide) dX8_isLike_19 ?_
  refine lv_icmp_eq (tgt := 25) hx hb dX8_isLike_20 (by decide) (fun _ => ?_) (fun h9 => absurd (by decide) h9)
  refine lv_iconst (v := 0) hx hb dX8_isLike_25 (by decide) ?_
  refine lv_istore_n (lv' := [(3, .int 0), (2, .int 4), (0, .ref h0), (1, .ref o)]) hx hb dX8_isLike_26 rfl hl (by decide) rfl (fun ls hl => ?_)
  refine lv_iload_n hx hb dX8_isLike_27 rfl (lv_at hl 0 rfl) ?_
  refine lv_aload_n hx hb dX8_isLike_28 rfl (lv_at hl 2 rfl) ?_
  refine va_get (D := (dC, dI)) (ci := 8) (v := .ref c1) (C := RX8) (T := TX8) (N := 3) hx hb hts gX8 hown hK hP 0 rfl rfl 2 (by decide) (hts _ u_247) (fun _ h9 => h9) rfl dX8_isLike_29 ?_
  refine lv_iload_n hx hb dX8_isLike_32 rfl (lv_at hl 1 rfl) ?_
  refine va_iald hx hb hK hP 1 0 rfl rfl (by unfold vp_in; decide) dX8_isLike_33 ?_
  refine lv_icmp_ge (tgt := 76) hx hb dX8_isLike_34 (by decide) (fun _ => ?_) (fun h9 => absurd (by decide) h9)
  refine lv_iinc (v := 5) (lv' := [(2, .int 5), (3, .int 0), (0, .ref h0), (1, .ref o)]) hx hb dX8_isLike_76 hl (k := 1) rfl (by decide) (by decide) rfl (fun ls hl => ?_)
  refine lv_goto (tgt := 2) hx hb dX8_isLike_79 (by decide) ?_
  refine lv_iload_n hx hb dX8_isLike_2 rfl (lv_at hl 0 rfl) ?_
  refine lv_bipush (v := 10) hx hb dX8_isLike_3 (by decide) ?_
  refine lv_icmp_ge (tgt := 82) hx hb dX8_isLike_5 (by decide) (fun h9 => absurd h9 (by decide)) (fun _ => ?_)
  refine lv_aload_n hx hb dX8_isLike_8 rfl (lv_at hl 2 rfl) ?_
  refine va_get (D := (dC, dI)) (ci := 8) (v := .ref c1) (C := RX8) (T := TX8) (N := 3) hx hb hts gX8 hown hK hP 0 rfl rfl 2 (by decide) (hts _ u_247) (fun _ h9 => h9) rfl dX8_isLike_9 ?_
  refine lv_iload_n hx hb dX8_isLike_12 rfl (lv_at hl 0 rfl) ?_
  refine va_iald hx hb hK hP 1 0 rfl rfl (by unfold vp_in; decide) dX8_isLike_13 ?_
  refine lv_aload_n hx hb dX8_isLike_14 rfl (lv_at hl 3 rfl) ?_
  refine va_get (D := (dC, dI)) (ci := 8) (v := .ref c2) (C := RX8) (T := TX8) (N := 3) hx hb hts gX8 hown hK hP 2 rfl rfl 2 (by decide) (hts _ u_247) (fun _ h9 => h9) rfl dX8_isLike_15 ?_
  refine lv_iload_n hx hb dX8_isLike_18 rfl (lv_at hl 0 rfl) ?_
  refine va_iald hx hb hK hP 3 1 rfl rfl (by unfold vp_in; decide) dX8_isLike_19 ?_
  refine lv_icmp_eq (tgt := 25) hx hb dX8_isLike_20 (by decide) (fun _ => ?_) (fun h9 => absurd (by decide) h9)
  refine lv_iconst (v := 0) hx hb dX8_isLike_25 (by decide) ?_
  refine lv_istore_n (lv' := [(3, .int 0), (2, .int 5), (0, .ref h0), (1, .ref o)]) hx hb dX8_isLike_26 rfl hl (by decide) rfl (fun ls hl => ?_)
  refine lv_iload_n hx hb dX8_isLike_27 rfl (lv_at hl 0 rfl) ?_
  refine lv_aload_n hx hb dX8_isLike_28 rfl (lv_at hl 2 rfl) ?_
  refine va_get (D := (dC, dI)) (ci := 8) (v := .ref c1) (C := RX8) (T := TX8) (N := 3) hx hb hts gX8 hown hK hP 0 rfl rfl 2 (by decide) (hts _ u_247) (fun _ h9 => h9) rfl dX8_isLike_29 ?_
  refine lv_iload_n hx hb dX8_isLike_32 rfl (lv_at hl 1 rfl) ?_
  refine va_iald hx hb hK hP 1 0 rfl rfl (by unfold vp_in; decide) dX8_isLike_33 ?_
  refine lv_icmp_ge (tgt := 76) hx hb dX8_isLike_34 (by decide) (fun _ => ?_) (fun h9 => absurd (by decide) h9)
  refine lv_iinc (v := 6) (lv' := [(2, .int 6), (3, .int 0), (0, .ref h0), (1, .ref o)]) hx hb dX8_isLike_76 hl (k := 1) rfl (by decide) (by decide) rfl (fun ls hl => ?_)
  refine lv_goto (tgt := 2) hx hb dX8_isLike_79 (by decide) ?_
  refine lv_iload_n hx hb dX8_isLike_2 rfl (lv_at hl 0 rfl) ?_
  refine lv_bipush (v := 10) hx hb dX8_isLike_3 (by decide) ?_
  refine lv_icmp_ge (tgt := 82) hx hb dX8_isLike_5 (by decide) (fun h9 => absurd h9 (by decide)) (fun _ => ?_)
  refine lv_aload_n hx hb dX8_isLike_8 rfl (lv_at hl 2 rfl) ?_
  refine va_get (D := (dC, dI)) (ci := 8) (v := .ref c1) (C := RX8) (T := TX8) (N := 3) hx hb hts gX8 hown hK hP 0 rfl rfl 2 (by decide) (hts _ u_247) (fun _ h9 => h9) rfl dX8_isLike_9 ?_
  refine lv_iload_n hx hb dX8_isLike_12 rfl (lv_at hl 0 rfl) ?_
  refine va_iald hx hb hK hP 1 0 rfl rfl (by unfold vp_in; decide) dX8_isLike_13 ?_
  refine lv_aload_n hx hb dX8_isLike_14 rfl (lv_at hl 3 rfl) ?_
  refine va_get (D := (dC, dI)) (ci := 8) (v := .ref c2) (C := RX8) (T := TX8) (N := 3) hx hb hts gX8 hown hK hP 2 rfl rfl 2 (by decide) (hts _ u_247) (fun _ h9 => h9) rfl dX8_isLike_15 ?_
  refine lv_iload_n hx hb dX8_isLike_18 rfl (lv_at hl 0 rfl) ?_
  refine va_iald hx hb hK hP 3 1 rfl rfl (by unfold vp_in; decide) dX8_isLike_19 ?_
  refine lv_icmp_eq (tgt := 25) hx hb dX8_isLike_20 (by decide) (fun _ => ?_) (fun h9 => absurd (by decide) h9)
  refine lv_iconst (v := 0) hx hb dX8_isLike_25 (by decide) ?_
  refine lv_istore_n (lv' := [(3, .int 0), (2, .int 6), (0, .ref h0), (1, .ref o)]) hx hb dX8_isLike_26 rfl hl (by decide) rfl (fun ls hl => ?_)
  refine lv_iload_n hx hb dX8_isLike_27 rfl (lv_at hl 0 rfl) ?_
  refine lv_aload_n hx hb dX8_isLike_28 rfl (lv_at hl 2 rfl) ?_
  refine va_get (D := (dC, dI)) (ci := 8) (v := .ref c1) (C := RX8) (T := TX8) (N := 3) hx hb hts gX8 hown hK hP 0 rfl rfl 2 (by decide) (hts _ u_247) (fun _ h9 => h9) rfl dX8_isLike_29 ?_
  refine lv_iload_n hx hb dX8_isLike_32 rfl (lv_at hl 1 rfl) ?_
  refine va_iald hx hb hK hP 1 0 rfl rfl (by unfold vp_in; decide) dX8_isLike_33 ?_
  refine lv_icmp_ge (tgt := 76) hx hb dX8_isLike_34 (by decide) (fun _ => ?_) (fun h9 => absurd (by decide) h9)
  refine lv_iinc (v := 7) (lv' := [(2, .int 7), (3, .int 0), (0, .ref h0), (1, .ref o)]) hx hb dX8_isLike_76 hl (k := 1) rfl (by decide) (by decide) rfl (fun ls hl => ?_)
  refine lv_goto (tgt := 2) hx hb dX8_isLike_79 (by decide) ?_
  refine lv_iload_n hx hb dX8_isLike_2 rfl (lv_at hl 0 rfl) ?_
  refine lv_bipush (v := 10) hx hb dX8_isLike_3 (by decide) ?_
  refine lv_icmp_ge (tgt := 82) hx hb dX8_isLike_5 (by decide) (fun h9 => absurd h9 (by decide)) (fun _ => ?_)
  refine lv_aload_n hx hb dX8_isLike_8 rfl (lv_at hl 2 rfl) ?_
  refine va_get (D := (dC, dI)) (ci := 8) (v := .ref c1) (C := RX8) (T := TX8) (N := 3) hx hb hts gX8 hown hK hP 0 rfl rfl 2 (by decide) (hts _ u_247) (fun _ h9 => h9) rfl dX8_isLike_9 ?_
  refine lv_iload_n hx hb dX8_isLike_12 rfl (lv_at hl 0 rfl) ?_
  refine va_iald hx hb hK hP 1 0 rfl rfl (by unfold vp_in; decide) dX8_isLike_13 ?_
  refine lv_aload_n hx hb dX8_isLike_14 rfl (lv_at hl 3 rfl) ?_
  refine va_get (D := (dC, dI)) (ci := 8) (v := .ref c2) (C := RX8) (T := TX8) (N := 3) hx hb hts gX8 hown hK hP 2 rfl rfl 2 (by decide) (hts _ u_247) (fun _ h9 => h9) rfl dX8_isLike_15 ?_
  refine lv_iload_n hx hb dX8_isLike_18 rfl (lv_at hl 0 rfl) ?_
  refine va_iald hx hb hK hP 3 1 rfl rfl (by unfold vp_in; decide) dX8_isLike_19 ?_
  refine lv_icmp_eq (tgt := 25) hx hb dX8_isLike_20 (by decide) (fun _ => ?_) (fun h9 => absurd (by decide) h9)
  refine lv_iconst (v := 0) hx hb dX8_isLike_25 (by decide) ?_
  refine lv_istore_n (lv' := [(3, .int 0), (2, .int 7), (0, .ref h0), (1, .ref o)]) hx hb dX8_isLike_26 rfl hl (by decide) rfl (fun ls hl => ?_)
  refine lv_iload_n hx hb dX8_isLike_27 rfl (lv_at hl 0 rfl) ?_
  refine lv_aload_n hx hb dX8_isLike_28 rfl (lv_at hl 2 rfl) ?_
  refine va_get (D := (dC, dI)) (ci := 8) (v := .ref c1) (C := RX8) (T := TX8) (N := 3) hx hb hts gX8 hown hK hP 0 rfl rfl 2 (by decide) (hts _ u_247) (fun _ h9 => h9) rfl dX8_isLike_29 ?_
  refine lv_iload_n hx hb dX8_isLike_32 rfl (lv_at hl 1 rfl) ?_
  refine va_iald hx hb hK hP 1 0 rfl rfl (by unfold vp_in; decide) dX8_isLike_33 ?_
  refine lv_icmp_ge (tgt := 76) hx hb dX8_isLike_34 (by decide) (fun _ => ?_) (fun h9 => absurd (by decide) h9)
  refine lv_iinc (v := 8) (lv' := [(2, .int 8), (3, .int 0), (0, .ref h0), (1, .ref o)]) hx hb dX8_isLike_76 hl (k := 1) rfl (by decide) (by decide) rfl (fun ls hl => ?_)
  refine lv_goto (tgt := 2) hx hb dX8_isLike_79 (by decide) ?_
  refine lv_iload_n hx hb dX8_isLike_2 rfl (lv_at hl 0 rfl) ?_
  refine lv_bipush (v := 10) hx hb dX8_isLike_3 (by decide) ?_
  refine lv_icmp_ge (tgt := 82) hx hb dX8_isLike_5 (by decide) (fun h9 => absurd h9 (by decide)) (fun _ => ?_)
  refine lv_aload_n hx hb dX8_isLike_8 rfl (lv_at hl 2 rfl) ?_
  refine va_get (D := (dC, dI)) (ci := 8) (v := .ref c1) (C := RX8) (T := TX8) (N := 3) hx hb hts gX8 hown hK hP 0 rfl rfl 2 (by decide) (hts _ u_247) (fun _ h9 => h9) rfl dX8_isLike_9 ?_
  refine lv_iload_n hx hb dX8_isLike_12 rfl (lv_at hl 0 rfl) ?_
  refine va_iald hx hb hK hP 1 0 rfl rfl (by unfold vp_in; decide) dX8_isLike_13 ?_
  refine lv_aload_n hx hb dX8_isLike_14 rfl (lv_at hl 3 rfl) ?_
  refine va_get (D := (dC, dI)) (ci := 8) (v := .ref c2) (C := RX8) (T := TX8) (N := 3) hx hb hts gX8 hown hK hP 2 rfl rfl 2 (by decide) (hts _ u_247) (fun _ h9 => h9) rfl dX8_isLike_15 ?_
  refine lv_iload_n hx hb dX8_isLike_18 rfl (lv_at hl 0 rfl) ?_
  refine va_iald hx hb hK hP 3 1 rfl rfl (by unfold vp_in; decide) dX8_isLike_19 ?_
  refine lv_icmp_eq (tgt := 25) hx hb dX8_isLike_20 (by decide) (fun _ => ?_) (fun h9 => absurd (by decide) h9)
  refine lv_iconst (v := 0) hx hb dX8_isLike_25 (by decide) ?_
  refine lv_istore_n (lv' := [(3, .int 0), (2, .int 8), (0, .ref h0), (1, .ref o)]) hx hb dX8_isLike_26 rfl hl (by decide) rfl (fun ls hl => ?_)
  refine lv_iload_n hx hb dX8_isLike_27 rfl (lv_at hl 0 rfl) ?_
  refine lv_aload_n hx hb dX8_isLike_28 rfl (lv_at hl 2 rfl) ?_
  refine va_get (D := (dC, dI)) (ci := 8) (v := .ref c1) (C := RX8) (T := TX8) (N := 3) hx hb hts gX8 hown hK hP 0 rfl rfl 2 (by decide) (hts _ u_247) (fun _ h9 => h9) rfl dX8_isLike_29 ?_
  refine lv_iload_n hx hb dX8_isLike_32 rfl (lv_at hl 1 rfl) ?_
  refine va_iald hx hb hK hP 1 0 rfl rfl (by unfold vp_in; decide) dX8_isLike_33 ?_
  refine lv_icmp_ge (tgt := 76) hx hb dX8_isLike_34 (by decide) (fun _ => ?_) (fun h9 => absurd (by decide) h9)
  refine lv_iinc (v := 9) (lv' := [(2, .int 9), (3, .int 0), (0, .ref h0), (1, .ref o)]) hx hb dX8_isLike_76 hl (k := 1) rfl (by decide) (by decide) rfl (fun ls hl => ?_)
  refine lv_goto (tgt := 2) hx hb dX8_isLike_79 (by decide) ?_
  refine lv_iload_n hx hb dX8_isLike_2 rfl (lv_at hl 0 rfl) ?_
  refine lv_bipush (v := 10) hx hb dX8_isLike_3 (by decide) ?_
  refine lv_icmp_ge (tgt := 82) hx hb dX8_isLike_5 (by decide) (fun h9 => absurd h9 (by decide)) (fun _ => ?_)
  refine lv_aload_n hx hb dX8_isLike_8 rfl (lv_at hl 2 rfl) ?_
  refine va_get (D := (dC, dI)) (ci := 8) (v := .ref c1) (C := RX8) (T := TX8) (N := 3) hx hb hts gX8 hown hK hP 0 rfl rfl 2 (by decide) (hts _ u_247) (fun _ h9 => h9) rfl dX8_isLike_9 ?_
  refine lv_iload_n hx hb dX8_isLike_12 rfl (lv_at hl 0 rfl) ?_
  refine va_iald hx hb hK hP 1 0 rfl rfl (by unfold vp_in; decide) dX8_isLike_13 ?_
  refine lv_aload_n hx hb dX8_isLike_14 rfl (lv_at hl 3 rfl) ?_
  refine va_get (D := (dC, dI)) (ci := 8) (v := .ref c2) (C := RX8) (T := TX8) (N := 3) hx hb hts gX8 hown hK hP 2 rfl rfl 2 (by decide) (hts _ u_247) (fun _ h9 => h9) rfl dX8_isLike_15 ?_
  refine lv_iload_n hx hb dX8_isLike_18 rfl (lv_at hl 0 rfl) ?_
  refine va_iald hx hb hK hP 3 1 rfl rfl (by unfold vp_in; decide) dX8_isLike_19 ?_
  refine lv_icmp_eq (tgt := 25) hx hb dX8_isLike_20 (by decide) (fun _ => ?_) (fun h9 => absurd (by decide) h9)
  refine lv_iconst (v := 0) hx hb dX8_isLike_25 (by decide) ?_
  refine lv_istore_n (lv' := [(3, .int 0), (2, .int 9), (0, .ref h0), (1, .ref o)]) hx hb dX8_isLike_26 rfl hl (by decide) rfl (fun ls hl => ?_)
  refine lv_iload_n hx hb dX8_isLike_27 rfl (lv_at hl 0 rfl) ?_
  refine lv_aload_n hx hb dX8_isLike_28 rfl (lv_at hl 2 rfl) ?_
  refine va_get (D := (dC, dI)) (ci := 8) (v := .ref c1) (C := RX8) (T := TX8) (N := 3) hx hb hts gX8 hown hK hP 0 rfl rfl 2 (by decide) (hts _ u_247) (fun _ h9 => h9) rfl dX8_isLike_29 ?_
  refine lv_iload_n hx hb dX8_isLike_32 rfl (lv_at hl 1 rfl) ?_
  refine va_iald hx hb hK hP 1 0 rfl rfl (by unfold vp_in; decide) dX8_isLike_33 ?_
  refine lv_icmp_ge (tgt := 76) hx hb dX8_isLike_34 (by decide) (fun _ => ?_) (fun h9 => absurd (by decide) h9)
  refine lv_iinc (v := 10) (lv' := [(2, .int 10), (3, .int 0), (0, .ref h0), (1, .ref o)]) hx hb dX8_isLike_76 hl (k := 1) rfl (by decide) (by decide) rfl (fun ls hl => ?_)
  refine lv_goto (tgt := 2) hx hb dX8_isLike_79 (by decide) ?_
  refine lv_iload_n hx hb dX8_isLike_2 rfl (lv_at hl 0 rfl) ?_
  refine lv_bipush (v := 10) hx hb dX8_isLike_3 (by decide) ?_
  refine lv_icmp_ge (tgt := 82) hx hb dX8_isLike_5 (by decide) (fun _ => ?_) (fun h9 => absurd (by decide) h9)
  refine lv_iconst (v := 1) hx hb dX8_isLike_82 (by decide) ?_
  refine W.widen (k := 0) (n := 0) (Nat.le_of_ble_eq_true rfl) (Nat.le_of_ble_eq_true rfl) ?_
  exact W.zret (v := 1) hx hb hr (by decide) (fun t ht hW => ⟨⟨1, (), rfl, rfl, trivial⟩, hS.F ht⟩) hS.2.2 dX8_isLike_83
set_option maxHeartbeats 4000000 in
set_option maxRecDepth 100000 in
theorem c_X6_learnOnce (l : Launch) (dC : Nat → ClassId) (dI : Nat → Nat → Nat) (sz : Nat) (h0 : Nat) (b : Nat) (w : Nat) (kd : Nat) (gW : Nat → Nat) (sg : Nat) (cu : Nat) (sp : Nat) (gR : Nat → Nat) (st : Int32) : Met l yX6_learnOnce (Cond.code yX6_learnOnce cX6_learnOnce 3 none :: gU) ({ frames := 0, cells := 0, slots := 0, locals := 0 }) (gP dC dI sz [(h0, .inr (6, oR w sg cu sp gR st 0)), (w, .inr (10, oW kd gW 0 0))] [] [.ref h0, .ref b]) (va_Qv (fun (_ : Unit) => True) (fun _ _ => True) (va_A [] sz)) 0 0 (va_A [] sz) := by
  refine Met.ofW (cc := cX6_learnOnce) (maxL := 3) (ret := none) (by decide) rfl ?_
  intro p e s m args below meth c s₁ B hml hv
  obtain ⟨rfl, hsz, hP, hK, hD0, hE⟩ := hv
  have hx := B.exec
  have hb := B.bytes
  have hr := B.returns
  have hts0 := atoms_spec (ws := Cond.code yX6_learnOnce cX6_learnOnce 3 none :: gU) B.pre
  have hts : ∀ w ∈ gU, w.before _ s = true := fun w h => hts0 w (List.mem_cons_of_mem _ h)
  have hown : s.vm.findClass RX6 = some m.cls := findClass_of_methodNamed B.named
  have hlocks := B.notSynchronized
  subst hsz
  have hD := hD0
  generalize hAe : va_A [] s.heap.size = A at ⊢
  have hA : ∀ q : Nat, s.heap.size ≤ q → A q := fun q h => by rw [← hAe]; exact Or.inr h
  have hS : va_S A s.heap s.heap [] := va_S.rf
  have hP : va_P (dC, dI) vwCl [(h0, .inr (6, oR w sg cu sp gR st 0)), (w, .inr (10, oW kd gW 0 0))] s.heap := hP
  have hl := lv_entry ([.ref h0, .ref b]) (n := 3) (Nat.le_of_ble_eq_true rfl)
  rw [lg_entry_eq]
  generalize (lg_sl ([.ref h0, .ref b]) ++ List.replicate (3 - (lg_sl ([.ref h0, .ref b])).length) Slot.unset).toArray = ls at hl ⊢
  have hl : lv_has ls 3 [(0, .ref h0), (1, .ref b)] := hl
  refine lv_iconst (v := 0) hx hb dX6_learnOnce_0 (by decide) ?_
  refine lv_istore_n (lv' := [(2, .int 0), (0, .ref h0), (1, .ref b)]) hx hb dX6_learnOnce_1 rfl hl (by decide) rfl (fun ls hl => ?_)
  refine lv_iload_n hx hb dX6_learnOnce_2 rfl (lv_at hl 0 rfl) ?_
  refine lv_aload_n hx hb dX6_learnOnce_3 rfl (lv_at hl 1 rfl) ?_
  refine va_get (D := (dC, dI)) (ci := 6) (v := .ref w) (C := RX6) (T := TX6) (N := 9) hx hb hts gX6 hown hK hP 0 rfl rfl 0 (by decide) (hts _ u_257) (fun _ h9 => h9) rfl dX6_learnOnce_4 ?_
  refine va_getN (D := (dC, dI)) (ci := 10) (v := .int 0) (C := RX10) (T := TX10) (N := 11) hx hb hts gX10 hown hK hP 1 rfl rfl 0 (by decide) (va_Nw.use rfl (hE.1 _ n_4)) (fun _ h9 => h9) rfl dX6_learnOnce_7 ?_
  refine lv_icmp_ge (tgt := 45) hx hb dX6_learnOnce_10 (by decide) (fun _ => ?_) (fun h9 => absurd (by decide) h9)
  refine W.widen (k := 0) (n := 0) (Nat.le_of_ble_eq_true rfl) (Nat.le_of_ble_eq_true rfl) ?_
  exact W.vret hx hb hr (fun t ht hW => ⟨⟨(), rfl, trivial, trivial⟩, hS.F ht⟩) hS.2.2 dX6_learnOnce_45
set_option maxHeartbeats 4000000 in
set_option maxRecDepth 100000 in
theorem c_X6_learn (l : Launch) (dC : Nat → ClassId) (dI : Nat → Nat → Nat) (sz : Nat) (h0 : Nat) (w : Nat) (kd : Nat) (gW : Nat → Nat) (sg : Nat) (gR : Nat → Nat) (st : Int32) (cu : Nat) (c1 : Nat) (cC1 : ClassId) (gB1 : Nat → Nat) (sp : Nat) (c2 : Nat) (cC2 : ClassId) (gB2 : Nat → Nat) : Met l yX6_learn (Cond.code yX6_learn cX6_learn 2 none :: gU) ({ frames := 1, cells := 0, slots := 0, locals := 24 }) (gP dC dI sz [(h0, .inr (6, oR w sg cu sp gR st 0)), (w, .inr (10, oW kd gW 0 0)), (cu, .inr (8, oB c1 gB1)), (c1, .inl (cC1, 10, .inl (fun _ => 0))), (sp, .inr (8, oB c2 gB2)), (c2, .inl (cC2, 10, .inl (fun _ => 0)))] [(cC1, .int), (cC2, .int)] [.ref h0]) (va_Qv (fun (_ : Unit) => True) (fun (_ : Unit) (t9 : State) => ∃ (stq : Int32), ∃ (cuq : Nat), ∃ (c1q : Nat), ∃ (cC1q : ClassId), ∃ (gB1q : Nat → Nat), ∃ (spq : Nat), ∃ (c2q : Nat), ∃ (cC2q : ClassId), ∃ (gB2q : Nat → Nat), va_P (dC, dI) vwCl [(h0, .inr (6, oR w sg cuq spq gR stq 0)), (w, .inr (10, oW kd gW 0 0)), (cuq, .inr (8, oB c1q gB1q)), (c1q, .inl (cC1q, 10, .inl (fun _ => 0))), (spq, .inr (8, oB c2q gB2q)), (c2q, .inl (cC2q, 10, .inl (fun _ => 0)))] t9.heap ∧ va_K (dC, dI) vwCl [(cC1q, .int), (cC2q, .int)] t9 ∧ va_D (va_A [(h0, .inr (6, oR w sg cu sp gR st 0)), (w, .inr (10, oW kd gW 0 0)), (cu, .inr (8, oB c1 gB1)), (c1, .inl (cC1, 10, .inl (fun _ => 0))), (sp, .inr (8, oB c2 gB2)), (c2, .inl (cC2, 10, .inl (fun _ => 0)))] sz) [(h0, .inr (6, oR w sg cuq spq gR stq 0)), (w, .inr (10, oW kd gW 0 0)), (cuq, .inr (8, oB c1q gB1q)), (c1q, .inl (cC1q, 10, .inl (fun _ => 0))), (spq, .inr (8, oB c2q gB2q)), (c2q, .inl (cC2q, 10, .inl (fun _ => 0)))]) (va_A [(h0, .inr (6, oR w sg cu sp gR st 0)), (w, .inr (10, oW kd gW 0 0)), (cu, .inr (8, oB c1 gB1)), (c1, .inl (cC1, 10, .inl (fun _ => 0))), (sp, .inr (8, oB c2 gB2)), (c2, .inl (cC2, 10, .inl (fun _ => 0)))] sz)) 0 0 (va_A [(h0, .inr (6, oR w sg cu sp gR st 0)), (w, .inr (10, oW kd gW 0 0)), (cu, .inr (8, oB c1 gB1)), (c1, .inl (cC1, 10, .inl (fun _ => 0))), (sp, .inr (8, oB c2 gB2)), (c2, .inl (cC2, 10, .inl (fun _ => 0)))] sz) := by
  refine Met.ofW (cc := cX6_learn) (maxL := 2) (ret := none) (by decide) rfl ?_
  intro p e s m args below meth c s₁ B hml hv
  obtain ⟨rfl, hsz, hP, hK, hD0, hE⟩ := hv
  have hx := B.exec
  have hb := B.bytes
  have hr := B.returns
  have hts0 := atoms_spec (ws := Cond.code yX6_learn cX6_learn 2 none :: gU) B.pre
  have hts : ∀ w ∈ gU, w.before _ s = true := fun w h => hts0 w (List.mem_cons_of_mem _ h)
  have hown : s.vm.findClass RX6 = some m.cls := findClass_of_methodNamed B.named
  have hlocks := B.notSynchronized
  subst hsz
  have hD := hD0.self (sz := s.heap.size)
  generalize hAe : va_A [(h0, .inr (6, oR w sg cu sp gR st 0)), (w, .inr (10, oW kd gW 0 0)), (cu, .inr (8, oB c1 gB1)), (c1, .inl (cC1, 10, .inl (fun _ => 0))), (sp, .inr (8, oB c2 gB2)), (c2, .inl (cC2, 10, .inl (fun _ => 0)))] s.heap.size = A at hD ⊢
  have hA : ∀ q : Nat, s.heap.size ≤ q → A q := fun q h => by rw [← hAe]; exact Or.inr h
  have hS : va_S A s.heap s.heap [] := va_S.rf
  have hP : va_P (dC, dI) vwCl [(h0, .inr (6, oR w sg cu sp gR st 0)), (w, .inr (10, oW kd gW 0 0)), (cu, .inr (8, oB c1 gB1)), (c1, .inl (cC1, 10, .inl (fun _ => 0))), (sp, .inr (8, oB c2 gB2)), (c2, .inl (cC2, 10, .inl (fun _ => 0)))] s.heap := hP
  have hl := lv_entry ([.ref h0]) (n := 2) (Nat.le_of_ble_eq_true rfl)
  rw [lg_entry_eq]
  generalize (lg_sl ([.ref h0]) ++ List.replicate (2 - (lg_sl ([.ref h0])).length) Slot.unset).toArray = ls at hl ⊢
  have hl : lv_has ls 2 [(0, .ref h0)] := hl
  refine lv_aload_n hx hb dX6_learn_0 rfl (lv_at hl 0 rfl) ?_
  refine va_get (D := (dC, dI)) (ci := 6) (v := .int st) (C := RX6) (T := TX6) (N := 9) hx hb hts gX6 hown hK hP 0 rfl rfl 7 (by decide) (hts _ u_266) (fun _ h9 => h9) rfl dX6_learn_1 ?_
  refine lv_if_eq (tgt := 8) hx hb dX6_learn_4 (by decide) (fun h1 => ?_) (fun h1 => ?_)
  · refine lv_aload_n hx hb dX6_learn_8 rfl (lv_at hl 0 rfl) ?_
    refine lv_aload_n hx hb dX6_learn_9 rfl (lv_at hl 0 rfl) ?_
    refine va_get (D := (dC, dI)) (ci := 6) (v := .ref cu) (C := RX6) (T := TX6) (N := 9) hx hb hts gX6 hown hK hP 0 rfl rfl 4 (by decide) (hts _ u_261) (fun _ h9 => h9) rfl dX6_learn_10 ?_
    have hPc := hP.sub (ws' := [(h0, .inr (6, oR w sg cu sp gR st 0)), (w, .inr (10, oW kd gW 0 0))]) [0, 1] rfl
    have hDc := hD.sub (ws' := [(h0, .inr (6, oR w sg cu sp gR st 0)), (w, .inr (10, oW kd gW 0 0))]) [0, 1] (by decide) rfl
    have hKc := hK.sub (tys' := []) [] rfl
    have hFc := roF hS hA
    refine va_callv (va_runV (As := [.ref cu]) (rest := []) ⟨hx, hb, hml, hown, hts⟩ (c_X6_learnOnce l dC dI s.heap.size h0 cu w kd gW sg cu sp gR st) (cwV 1 hts (gV u_908 u_910 v_17 u_8 u_911) rfl rfl rfl (by decide +kernel) ⟨Nat.le_of_ble_eq_true rfl, Nat.le_of_ble_eq_true rfl⟩) ⟨gP_blind, va_recv hKc hPc (ci := 6) (q0 := 0) rfl rfl, gP_call hPc hKc hDc hE⟩ rfl rfl hl.1 rfl (lv_room (Nat.le_of_ble_eq_true rfl)) dX6_learn_13 ⟨(Nat.le_of_ble_eq_true rfl), (Nat.le_of_ble_eq_true rfl)⟩) hS (fun q _ h => hFc q h) hFc (fun u9 t9 H887 locs ht hvm hw hB hz1 hk1 hS => ?_)
    have hP := roP hP hk1
    refine lv_aload_n hx hb dX6_learn_16 rfl (lv_at hl 0 rfl) ?_
    refine lv_aload_n hx hb dX6_learn_17 rfl (lv_at hl 0 rfl) ?_
    refine va_get (D := (dC, dI)) (ci := 6) (v := .ref sp) (C := RX6) (T := TX6) (N := 9) hx hb hts gX6 hown hK hP 0 rfl rfl 6 (by decide) (hts _ u_265) (fun _ h9 => h9) rfl dX6_learn_18 ?_
    refine lv_aload_n hx hb dX6_learn_21 rfl (lv_at hl 0 rfl) ?_
    refine va_get (D := (dC, dI)) (ci := 6) (v := .ref cu) (C := RX6) (T := TX6) (N := 9) hx hb hts gX6 hown hK hP 0 rfl rfl 4 (by decide) (hts _ u_261) (fun _ h9 => h9) rfl dX6_learn_22 ?_
    have hPc := hP.sub (ws' := [(sp, .inr (8, oB c2 gB2)), (c2, .inl (cC2, 10, .inl (fun _ => 0))), (cu, .inr (8, oB c1 gB1)), (c1, .inl (cC1, 10, .inl (fun _ => 0)))]) [4, 5, 2, 3] rfl
    have hDc := hD.sub (ws' := [(sp, .inr (8, oB c2 gB2)), (c2, .inl (cC2, 10, .inl (fun _ => 0))), (cu, .inr (8, oB c1 gB1)), (c1, .inl (cC1, 10, .inl (fun _ => 0)))]) [4, 5, 2, 3] (by decide) rfl
    have hKc := hK.sub (tys' := [(cC2, .int), (cC1, .int)]) [1, 0] rfl
    have hFc := roF hS hA
    refine va_calli (va_runV (As := [.ref cu]) (rest := [.ref h0]) ⟨hx, hb, hml, hown, hts⟩ (c_X8_isLike l dC dI H887.size sp cu c2 cC2 gB2 c1 cC1 gB1) (cwV 1 hts (gV u_936 u_937 u_938 u_9 u_939) rfl rfl rfl (by decide +kernel) ⟨Nat.le_of_ble_eq_true rfl, Nat.le_of_ble_eq_true rfl⟩) ⟨gP_blind, va_recv hKc hPc (ci := 8) (q0 := 0) rfl rfl, gP_call hPc hKc hDc hE⟩ rfl rfl hl.1 rfl (lv_room (Nat.le_of_ble_eq_true rfl)) dX6_learn_25 ⟨(Nat.le_of_ble_eq_true rfl), (Nat.le_of_ble_eq_true rfl)⟩) hS (fun q _ h => hFc q h) hFc (fun r890 u9 t9 H889 locs ht hvm hw hB hz1 hk1 hS => ?_)
    have hP := roP hP hk1
    subst hw
    refine va_put (D := (dC, dI)) (ci := 6) (v := .int 1) (ty := .boolean) (C := RX6) (T := TX6) (N := 9) hx hb hts gX6 tyX6 tyX6_ok nmX6 hown hK hP hD hS 0 rfl rfl 7 (by decide) (hts _ u_266) (fun _ h9 => h9) rfl (by decide +kernel) rfl rfl (Nat.le_of_ble_eq_true rfl) dX6_learn_28 (fun H891 locs hP hD hS => ?_)
    have hP : va_P (dC, dI) vwCl [(h0, .inr (6, oR w sg cu sp gR 1 0)), (w, .inr (10, oW kd gW 0 0)), (cu, .inr (8, oB c1 gB1)), (c1, .inl (cC1, 10, .inl (fun _ => 0))), (sp, .inr (8, oB c2 gB2)), (c2, .inl (cC2, 10, .inl (fun _ => 0)))] H891 := hP
    have hD : va_D A [(h0, .inr (6, oR w sg cu sp gR 1 0)), (w, .inr (10, oW kd gW 0 0)), (cu, .inr (8, oB c1 gB1)), (c1, .inl (cC1, 10, .inl (fun _ => 0))), (sp, .inr (8, oB c2 gB2)), (c2, .inl (cC2, 10, .inl (fun _ => 0)))] := hD
    refine lv_aload_n hx hb dX6_learn_31 rfl (lv_at hl 0 rfl) ?_
    refine va_get (D := (dC, dI)) (ci := 6) (v := .ref cu) (C := RX6) (T := TX6) (N := 9) hx hb hts gX6 hown hK hP 0 rfl rfl 4 (by decide) (hts _ u_261) (fun _ h9 => h9) rfl dX6_learn_32 ?_
    refine lv_astore_n (lv' := [(1, .ref cu), (0, .ref h0)]) hx hb dX6_learn_35 rfl hl (by decide) rfl (fun ls hl => ?_)
    refine lv_aload_n hx hb dX6_learn_36 rfl (lv_at hl 1 rfl) ?_
    refine lv_aload_n hx hb dX6_learn_37 rfl (lv_at hl 1 rfl) ?_
    refine va_get (D := (dC, dI)) (ci := 6) (v := .ref sp) (C := RX6) (T := TX6) (N := 9) hx hb hts gX6 hown hK hP 0 rfl rfl 6 (by decide) (hts _ u_265) (fun _ h9 => h9) rfl dX6_learn_38 ?_
    refine va_put (D := (dC, dI)) (ci := 6) (v := .ref sp) (ty := (.object RX8)) (C := RX6) (T := TX6) (N := 9) hx hb hts gX6 tyX6 tyX6_ok nmX6 hown hK hP hD hS 0 rfl rfl 4 (by decide) (hts _ u_261) (fun _ h9 => h9) rfl (by decide +kernel) rfl rfl (Nat.le_of_ble_eq_true rfl) dX6_learn_41 (fun H892 locs hP hD hS => ?_)
    have hP : va_P (dC, dI) vwCl [(h0, .inr (6, oR w sg sp sp gR 1 0)), (w, .inr (10, oW kd gW 0 0)), (cu, .inr (8, oB c1 gB1)), (c1, .inl (cC1, 10, .inl (fun _ => 0))), (sp, .inr (8, oB c2 gB2)), (c2, .inl (cC2, 10, .inl (fun _ => 0)))] H892 := hP
    have hD : va_D A [(h0, .inr (6, oR w sg sp sp gR 1 0)), (w, .inr (10, oW kd gW 0 0)), (cu, .inr (8, oB c1 gB1)), (c1, .inl (cC1, 10, .inl (fun _ => 0))), (sp, .inr (8, oB c2 gB2)), (c2, .inl (cC2, 10, .inl (fun _ => 0)))] := hD
    refine lv_aload_n hx hb dX6_learn_44 rfl (lv_at hl 1 rfl) ?_
    refine lv_aload_n hx hb dX6_learn_45 rfl (lv_at hl 0 rfl) ?_
    refine va_put (D := (dC, dI)) (ci := 6) (v := .ref cu) (ty := (.object RX8)) (C := RX6) (T := TX6) (N := 9) hx hb hts gX6 tyX6 tyX6_ok nmX6 hown hK hP hD hS 0 rfl rfl 6 (by decide) (hts _ u_265) (fun _ h9 => h9) rfl (by decide +kernel) rfl rfl (Nat.le_of_ble_eq_true rfl) dX6_learn_46 (fun H893 locs hP hD hS => ?_)
    have hP : va_P (dC, dI) vwCl [(h0, .inr (6, oR w sg sp cu gR 1 0)), (w, .inr (10, oW kd gW 0 0)), (cu, .inr (8, oB c1 gB1)), (c1, .inl (cC1, 10, .inl (fun _ => 0))), (sp, .inr (8, oB c2 gB2)), (c2, .inl (cC2, 10, .inl (fun _ => 0)))] H893 := hP
    have hD : va_D A [(h0, .inr (6, oR w sg sp cu gR 1 0)), (w, .inr (10, oW kd gW 0 0)), (cu, .inr (8, oB c1 gB1)), (c1, .inl (cC1, 10, .inl (fun _ => 0))), (sp, .inr (8, oB c2 gB2)), (c2, .inl (cC2, 10, .inl (fun _ => 0)))] := hD
    have hP := hP.sub (ws' := [(h0, .inr (6, oR w sg sp cu gR 1 0)), (w, .inr (10, oW kd gW 0 0)), (sp, .inr (8, oB c2 gB2)), (c2, .inl (cC2, 10, .inl (fun _ => 0))), (cu, .inr (8, oB c1 gB1)), (c1, .inl (cC1, 10, .inl (fun _ => 0)))]) [0, 1, 4, 5, 2, 3] rfl
    have hD := hD.sub (ws' := [(h0, .inr (6, oR w sg sp cu gR 1 0)), (w, .inr (10, oW kd gW 0 0)), (sp, .inr (8, oB c2 gB2)), (c2, .inl (cC2, 10, .inl (fun _ => 0))), (cu, .inr (8, oB c1 gB1)), (c1, .inl (cC1, 10, .inl (fun _ => 0)))]) [0, 1, 4, 5, 2, 3] (by decide) rfl
    have hK := hK.sub (tys' := [(cC2, .int), (cC1, .int)]) [1, 0] rfl
    refine W.widen (k := 0) (n := 0) (Nat.le_of_ble_eq_true rfl) (Nat.le_of_ble_eq_true rfl) ?_
    exact W.vret hx hb hr (fun t ht hW => ⟨⟨(), rfl, trivial, ⟨1, sp, c2, cC2, gB2, cu, c1, cC1, gB1, by rw [ht]; exact hP, va_K.moved hW.alike hK, hD⟩⟩, hS.F ht⟩) hS.2.2 dX6_learn_49
  · have hP := hP.sub (ws' := [(h0, .inr (6, oR w sg cu sp gR st 0)), (w, .inr (10, oW kd gW 0 0)), (cu, .inr (8, oB c1 gB1)), (c1, .inl (cC1, 10, .inl (fun _ => 0))), (sp, .inr (8, oB c2 gB2)), (c2, .inl (cC2, 10, .inl (fun _ => 0)))]) [0, 1, 2, 3, 4, 5] rfl
    have hD := hD.sub (ws' := [(h0, .inr (6, oR w sg cu sp gR st 0)), (w, .inr (10, oW kd gW 0 0)), (cu, .inr (8, oB c1 gB1)), (c1, .inl (cC1, 10, .inl (fun _ => 0))), (sp, .inr (8, oB c2 gB2)), (c2, .inl (cC2, 10, .inl (fun _ => 0)))]) [0, 1, 2, 3, 4, 5] (by decide) rfl
    have hK := hK.sub (tys' := [(cC1, .int), (cC2, .int)]) [0, 1] rfl
    refine W.widen (k := 0) (n := 0) (Nat.le_of_ble_eq_true rfl) (Nat.le_of_ble_eq_true rfl) ?_
    exact W.vret hx hb hr (fun t ht hW => ⟨⟨(), rfl, trivial, ⟨st, cu, c1, cC1, gB1, sp, c2, cC2, gB2, by rw [ht]; exact hP, va_K.moved hW.alike hK, hD⟩⟩, hS.F ht⟩) hS.2.2 dX6_learn_7
set_option maxHeartbeats 4000000 in
set_option maxRecDepth 100000 in
theorem c_X9_passTick (l : Launch) (dC : Nat → ClassId) (dI : Nat → Nat → Nat) (sz : Nat) (h0 : Nat) (nw : Int32) (w : Nat) (kd : Nat) (gW : Nat → Nat) (sg : Nat) (sn : Nat) (cS : ClassId) (gS : Nat → Nat) (ro : Nat) (gR : Nat → Nat) (gT : Nat → Nat) (fr : Int32) (f : Nat → Int64) (st : Int32) (cu : Nat) (c1 : Nat) (cC1 : ClassId) (gB1 : Nat → Nat) (sp : Nat) (c2 : Nat) (cC2 : ClassId) (gB2 : Nat → Nat) : Met l yX9_passTick (Cond.code yX9_passTick cX9_passTick 4 none :: gU) ({ frames := 5, cells := 0, slots := 0, locals := 121 }) (gP dC dI sz [(h0, .inr (9, oT w sg ro gT nw 0 0 0)), (sg, .inr (7, oS w sn gS fr)), (sn, .inl (cS, 40, .inr (.inl f))), (w, .inr (10, oW kd gW 0 0)), (ro, .inr (6, oR w sg cu sp gR st 0)), (cu, .inr (8, oB c1 gB1)), (c1, .inl (cC1, 10, .inl (fun _ => 0))), (sp, .inr (8, oB c2 gB2)), (c2, .inl (cC2, 10, .inl (fun _ => 0)))] [(cS, .long), (cC1, .int), (cC2, .int)] [.ref h0]) (va_Qv (fun (_ : Unit) => True) (fun (_ : Unit) (t9 : State) => ∃ (frq : Int32), ∃ (fq : Nat → Int64), ∃ (stq : Int32), ∃ (cuq : Nat), ∃ (c1q : Nat), ∃ (cC1q : ClassId), ∃ (gB1q : Nat → Nat), ∃ (spq : Nat), ∃ (c2q : Nat), ∃ (cC2q : ClassId), ∃ (gB2q : Nat → Nat), va_P (dC, dI) vwCl [(h0, .inr (9, oT w sg ro gT (nw + 1) 0 0 0)), (sg, .inr (7, oS w sn gS frq)), (sn, .inl (cS, 40, .inr (.inl fq))), (w, .inr (10, oW kd gW 0 0)), (ro, .inr (6, oR w sg cuq spq gR stq 0)), (cuq, .inr (8, oB c1q gB1q)), (c1q, .inl (cC1q, 10, .inl (fun _ => 0))), (spq, .inr (8, oB c2q gB2q)), (c2q, .inl (cC2q, 10, .inl (fun _ => 0)))] t9.heap ∧ va_K (dC, dI) vwCl [(cS, .long), (cC1q, .int), (cC2q, .int)] t9 ∧ va_D (va_A [(h0, .inr (9, oT w sg ro gT nw 0 0 0)), (sg, .inr (7, oS w sn gS fr)), (sn, .inl (cS, 40, .inr (.inl f))), (w, .inr (10, oW kd gW 0 0)), (ro, .inr (6, oR w sg cu sp gR st 0)), (cu, .inr (8, oB c1 gB1)), (c1, .inl (cC1, 10, .inl (fun _ => 0))), (sp, .inr (8, oB c2 gB2)), (c2, .inl (cC2, 10, .inl (fun _ => 0)))] sz) [(h0, .inr (9, oT w sg ro gT (nw + 1) 0 0 0)), (sg, .inr (7, oS w sn gS frq)), (sn, .inl (cS, 40, .inr (.inl fq))), (w, .inr (10, oW kd gW 0 0)), (ro, .inr (6, oR w sg cuq spq gR stq 0)), (cuq, .inr (8, oB c1q gB1q)), (c1q, .inl (cC1q, 10, .inl (fun _ => 0))), (spq, .inr (8, oB c2q gB2q)), (c2q, .inl (cC2q, 10, .inl (fun _ => 0)))]) (va_A [(h0, .inr (9, oT w sg ro gT nw 0 0 0)), (sg, .inr (7, oS w sn gS fr)), (sn, .inl (cS, 40, .inr (.inl f))), (w, .inr (10, oW kd gW 0 0)), (ro, .inr (6, oR w sg cu sp gR st 0)), (cu, .inr (8, oB c1 gB1)), (c1, .inl (cC1, 10, .inl (fun _ => 0))), (sp, .inr (8, oB c2 gB2)), (c2, .inl (cC2, 10, .inl (fun _ => 0)))] sz)) 0 0 (va_A [(h0, .inr (9, oT w sg ro gT nw 0 0 0)), (sg, .inr (7, oS w sn gS fr)), (sn, .inl (cS, 40, .inr (.inl f))), (w, .inr (10, oW kd gW 0 0)), (ro, .inr (6, oR w sg cu sp gR st 0)), (cu, .inr (8, oB c1 gB1)), (c1, .inl (cC1, 10, .inl (fun _ => 0))), (sp, .inr (8, oB c2 gB2)), (c2, .inl (cC2, 10, .inl (fun _ => 0)))] sz) := by
  refine Met.ofW (cc := cX9_passTick) (maxL := 4) (ret := none) (by decide) rfl ?_
  intro p e s m args below meth c s₁ B hml hv
  obtain ⟨rfl, hsz, hP, hK, hD0, hE⟩ := hv
  have hx := B.exec
  have hb := B.bytes
  have hr := B.returns
  have hts0 := atoms_spec (ws := Cond.code yX9_passTick cX9_passTick 4 none :: gU) B.pre
  have hts : ∀ w ∈ gU, w.before _ s = true := fun w h => hts0 w (List.mem_cons_of_mem _ h)
  have hown : s.vm.findClass RX9 = some m.cls := findClass_of_methodNamed B.named
  have hlocks := B.notSynchronized
  subst hsz
  have hD := hD0.self (sz := s.heap.size)
  generalize hAe : va_A [(h0, .inr (9, oT w sg ro gT nw 0 0 0)), (sg, .inr (7, oS w sn gS fr)), (sn, .inl (cS, 40, .inr (.inl f))), (w, .inr (10, oW kd gW 0 0)), (ro, .inr (6, oR w sg cu sp gR st 0)), (cu, .inr (8, oB c1 gB1)), (c1, .inl (cC1, 10, .inl (fun _ => 0))), (sp, .inr (8, oB c2 gB2)), (c2, .inl (cC2, 10, .inl (fun _ => 0)))] s.heap.size = A at hD ⊢
  have hA : ∀ q : Nat, s.heap.size ≤ q → A q := fun q h => by rw [← hAe]; exact Or.inr h
  have hS : va_S A s.heap s.heap [] := va_S.rf
  have hP : va_P (dC, dI) vwCl [(h0, .inr (9, oT w sg ro gT nw 0 0 0)), (sg, .inr (7, oS w sn gS fr)), (sn, .inl (cS, 40, .inr (.inl f))), (w, .inr (10, oW kd gW 0 0)), (ro, .inr (6, oR w sg cu sp gR st 0)), (cu, .inr (8, oB c1 gB1)), (c1, .inl (cC1, 10, .inl (fun _ => 0))), (sp, .inr (8, oB c2 gB2)), (c2, .inl (cC2, 10, .inl (fun _ => 0)))] s.heap := hP
  have hl := lv_entry ([.ref h0]) (n := 4) (Nat.le_of_ble_eq_true rfl)
  rw [lg_entry_eq]
  generalize (lg_sl ([.ref h0]) ++ List.replicate (4 - (lg_sl ([.ref h0])).length) Slot.unset).toArray = ls at hl ⊢
  have hl : lv_has ls 4 [(0, .ref h0)] := hl
  refine lv_aload_n hx hb dX9_passTick_0 rfl (lv_at hl 0 rfl) ?_
  refine lv_dup hx hb dX9_passTick_1 rfl ?_
  refine va_get (D := (dC, dI)) (ci := 9) (v := .int nw) (C := RX9) (T := TX9) (N := 19) hx hb hts gX9 hown hK hP 0 rfl rfl 6 (by decide) (hts _ u_358) (fun _ h9 => h9) rfl dX9_passTick_2 ?_
  refine lv_iconst (v := 1) hx hb dX9_passTick_5 (by decide) ?_
  refine lv_iadd hx hb dX9_passTick_6 ?_
  refine va_put (D := (dC, dI)) (ci := 9) (v := .int (nw + 1)) (ty := .int) (C := RX9) (T := TX9) (N := 19) hx hb hts gX9 tyX9 tyX9_ok nmX9 hown hK hP hD hS 0 rfl rfl 6 (by decide) (hts _ u_358) (fun _ h9 => h9) rfl (by decide +kernel) rfl rfl (Nat.le_of_ble_eq_true rfl) dX9_passTick_7 (fun H894 locs hP hD hS => ?_)
  have hP : va_P (dC, dI) vwCl [(h0, .inr (9, oT w sg ro gT (nw + 1) 0 0 0)), (sg, .inr (7, oS w sn gS fr)), (sn, .inl (cS, 40, .inr (.inl f))), (w, .inr (10, oW kd gW 0 0)), (ro, .inr (6, oR w sg cu sp gR st 0)), (cu, .inr (8, oB c1 gB1)), (c1, .inl (cC1, 10, .inl (fun _ => 0))), (sp, .inr (8, oB c2 gB2)), (c2, .inl (cC2, 10, .inl (fun _ => 0)))] H894 := hP
  have hD : va_D A [(h0, .inr (9, oT w sg ro gT (nw + 1) 0 0 0)), (sg, .inr (7, oS w sn gS fr)), (sn, .inl (cS, 40, .inr (.inl f))), (w, .inr (10, oW kd gW 0 0)), (ro, .inr (6, oR w sg cu sp gR st 0)), (cu, .inr (8, oB c1 gB1)), (c1, .inl (cC1, 10, .inl (fun _ => 0))), (sp, .inr (8, oB c2 gB2)), (c2, .inl (cC2, 10, .inl (fun _ => 0)))] := hD
  refine lv_aload_n hx hb dX9_passTick_10 rfl (lv_at hl 0 rfl) ?_
  refine va_get (D := (dC, dI)) (ci := 9) (v := .ref sg) (C := RX9) (T := TX9) (N := 19) hx hb hts gX9 hown hK hP 0 rfl rfl 1 (by decide) (hts _ u_353) (fun _ h9 => h9) rfl dX9_passTick_11 ?_
  have hPc := hP.sub (ws' := [(sg, .inr (7, oS w sn gS fr)), (sn, .inl (cS, 40, .inr (.inl f))), (w, .inr (10, oW kd gW 0 0))]) [1, 2, 3] rfl
  have hDc := hD.sub (ws' := [(sg, .inr (7, oS w sn gS fr)), (sn, .inl (cS, 40, .inr (.inl f))), (w, .inr (10, oW kd gW 0 0))]) [1, 2, 3] (by decide) rfl
  have hKc := hK.sub (tys' := [(cS, .long)]) [0] rfl
  have hFc := va_free (wc := [(sg, .inr (7, oS w sn gS fr)), (sn, .inl (cS, 40, .inr (.inl f))), (w, .inr (10, oW kd gW 0 0))]) hD hS hA [1, 2, 3] rfl
  refine va_callv (va_runV (As := []) (rest := []) ⟨hx, hb, hml, hown, hts⟩ (c_X7_refresh l dC dI H894.size sg w kd gW sn cS gS fr f) (cwV 0 hts (gV u_854 u_734 u_735 u_4 u_736) rfl rfl rfl (by decide +kernel) ⟨Nat.le_of_ble_eq_true rfl, Nat.le_of_ble_eq_true rfl⟩) ⟨gP_blind, va_recv hKc hPc (ci := 7) (q0 := 0) rfl rfl, gP_call hPc hKc hDc hE⟩ rfl rfl hl.1 rfl (lv_room (Nat.le_of_ble_eq_true rfl)) dX9_passTick_14 ⟨(Nat.le_of_ble_eq_true rfl), (Nat.le_of_ble_eq_true rfl)⟩) hS (fun q _ h => hFc q h) hFc (fun u9 t9 H895 locs ht hvm hw hB hz1 hk1 hS => ?_)
  obtain ⟨fr2897, f2898, hP1, hK1, hD1⟩ := hB
  rw [ht] at hP1
  have hK1 := va_K.moved hvm.symm hK1
  obtain ⟨hP, hD⟩ := va_join (wr := [(h0, .inr (9, oT w sg ro gT (nw + 1) 0 0 0)), (ro, .inr (6, oR w sg cu sp gR st 0)), (cu, .inr (8, oB c1 gB1)), (c1, .inl (cC1, 10, .inl (fun _ => 0))), (sp, .inr (8, oB c2 gB2)), (c2, .inl (cC2, 10, .inl (fun _ => 0)))]) (w1 := [(sg, .inr (7, oS w sn gS fr2897)), (sn, .inl (cS, 40, .inr (.inl f2898))), (w, .inr (10, oW kd gW 0 0))]) hP hD [1, 2, 3] [0, 4, 5, 6, 7, 8] rfl rfl (by decide) (by decide) hk1 hFc hP1 hD1
  have hK := (hK.sub (tys' := [(cC1, .int), (cC2, .int)]) [1, 2] rfl).app hK1
  have hK : va_K (dC, dI) vwCl [(cC1, .int), (cC2, .int), (cS, .long)] s := hK
  have hP : va_P (dC, dI) vwCl [(h0, .inr (9, oT w sg ro gT (nw + 1) 0 0 0)), (ro, .inr (6, oR w sg cu sp gR st 0)), (cu, .inr (8, oB c1 gB1)), (c1, .inl (cC1, 10, .inl (fun _ => 0))), (sp, .inr (8, oB c2 gB2)), (c2, .inl (cC2, 10, .inl (fun _ => 0))), (sg, .inr (7, oS w sn gS fr2897)), (sn, .inl (cS, 40, .inr (.inl f2898))), (w, .inr (10, oW kd gW 0 0))] H895 := hP
  have hD : va_D A [(h0, .inr (9, oT w sg ro gT (nw + 1) 0 0 0)), (ro, .inr (6, oR w sg cu sp gR st 0)), (cu, .inr (8, oB c1 gB1)), (c1, .inl (cC1, 10, .inl (fun _ => 0))), (sp, .inr (8, oB c2 gB2)), (c2, .inl (cC2, 10, .inl (fun _ => 0))), (sg, .inr (7, oS w sn gS fr2897)), (sn, .inl (cS, 40, .inr (.inl f2898))), (w, .inr (10, oW kd gW 0 0))] := hD
  refine lv_aload_n hx hb dX9_passTick_17 rfl (lv_at hl 0 rfl) ?_
  refine va_get (D := (dC, dI)) (ci := 9) (v := .ref ro) (C := RX9) (T := TX9) (N := 19) hx hb hts gX9 hown hK hP 0 rfl rfl 4 (by decide) (hts _ u_356) (fun _ h9 => h9) rfl dX9_passTick_18 ?_
  have hPc := hP.sub (ws' := [(ro, .inr (6, oR w sg cu sp gR st 0)), (w, .inr (10, oW kd gW 0 0)), (cu, .inr (8, oB c1 gB1)), (c1, .inl (cC1, 10, .inl (fun _ => 0))), (sp, .inr (8, oB c2 gB2)), (c2, .inl (cC2, 10, .inl (fun _ => 0)))]) [1, 8, 2, 3, 4, 5] rfl
  have hDc := hD.sub (ws' := [(ro, .inr (6, oR w sg cu sp gR st 0)), (w, .inr (10, oW kd gW 0 0)), (cu, .inr (8, oB c1 gB1)), (c1, .inl (cC1, 10, .inl (fun _ => 0))), (sp, .inr (8, oB c2 gB2)), (c2, .inl (cC2, 10, .inl (fun _ => 0)))]) [1, 8, 2, 3, 4, 5] (by decide) rfl
  have hKc := hK.sub (tys' := [(cC1, .int), (cC2, .int)]) [0, 1] rfl
  have hFc := va_free (wc := [(ro, .inr (6, oR w sg cu sp gR st 0)), (w, .inr (10, oW kd gW 0 0)), (cu, .inr (8, oB c1 gB1)), (c1, .inl (cC1, 10, .inl (fun _ => 0))), (sp, .inr (8, oB c2 gB2)), (c2, .inl (cC2, 10, .inl (fun _ => 0)))]) hD hS hA [1, 8, 2, 3, 4, 5] rfl
  refine va_callv (va_runV (As := []) (rest := []) ⟨hx, hb, hml, hown, hts⟩ (c_X6_learn l dC dI H895.size ro w kd gW sg gR st cu c1 cC1 gB1 sp c2 cC2 gB2) (cwV 0 hts (gV u_904 u_905 u_906 u_8 u_907) rfl rfl rfl (by decide +kernel) ⟨Nat.le_of_ble_eq_true rfl, Nat.le_of_ble_eq_true rfl⟩) ⟨gP_blind, va_recv hKc hPc (ci := 6) (q0 := 0) rfl rfl, gP_call hPc hKc hDc hE⟩ rfl rfl hl.1 rfl (lv_room (Nat.le_of_ble_eq_true rfl)) dX9_passTick_21 ⟨(Nat.le_of_ble_eq_true rfl), (Nat.le_of_ble_eq_true rfl)⟩) hS (fun q _ h => hFc q h) hFc (fun u9 t9 H899 locs ht hvm hw hB hz1 hk1 hS => ?_)
  obtain ⟨stq901, cuq902, c1q903, cC1q904, gB1q905, spq906, c2q907, cC2q908, gB2q909, hP1, hK1, hD1⟩ := hB
  rw [ht] at hP1
  have hK1 := va_K.moved hvm.symm hK1
  obtain ⟨hP, hD⟩ := va_join (wr := [(h0, .inr (9, oT w sg ro gT (nw + 1) 0 0 0)), (sg, .inr (7, oS w sn gS fr2897)), (sn, .inl (cS, 40, .inr (.inl f2898)))]) (w1 := [(ro, .inr (6, oR w sg cuq902 spq906 gR stq901 0)), (w, .inr (10, oW kd gW 0 0)), (cuq902, .inr (8, oB c1q903 gB1q905)), (c1q903, .inl (cC1q904, 10, .inl (fun _ => 0))), (spq906, .inr (8, oB c2q907 gB2q909)), (c2q907, .inl (cC2q908, 10, .inl (fun _ => 0)))]) hP hD [1, 8, 2, 3, 4, 5] [0, 6, 7] rfl rfl (by decide) (by decide) hk1 hFc hP1 hD1
  have hK := (hK.sub (tys' := [(cS, .long)]) [2] rfl).app hK1
  have hK : va_K (dC, dI) vwCl [(cS, .long), (cC1q904, .int), (cC2q908, .int)] s := hK
  have hP : va_P (dC, dI) vwCl [(h0, .inr (9, oT w sg ro gT (nw + 1) 0 0 0)), (sg, .inr (7, oS w sn gS fr2897)), (sn, .inl (cS, 40, .inr (.inl f2898))), (ro, .inr (6, oR w sg cuq902 spq906 gR stq901 0)), (w, .inr (10, oW kd gW 0 0)), (cuq902, .inr (8, oB c1q903 gB1q905)), (c1q903, .inl (cC1q904, 10, .inl (fun _ => 0))), (spq906, .inr (8, oB c2q907 gB2q909)), (c2q907, .inl (cC2q908, 10, .inl (fun _ => 0)))] H899 := hP
  have hD : va_D A [(h0, .inr (9, oT w sg ro gT (nw + 1) 0 0 0)), (sg, .inr (7, oS w sn gS fr2897)), (sn, .inl (cS, 40, .inr (.inl f2898))), (ro, .inr (6, oR w sg cuq902 spq906 gR stq901 0)), (w, .inr (10, oW kd gW 0 0)), (cuq902, .inr (8, oB c1q903 gB1q905)), (c1q903, .inl (cC1q904, 10, .inl (fun _ => 0))), (spq906, .inr (8, oB c2q907 gB2q909)), (c2q907, .inl (cC2q908, 10, .inl (fun _ => 0)))] := hD
  refine lv_aload_n hx hb dX9_passTick_24 rfl (lv_at hl 0 rfl) ?_
  refine va_get (D := (dC, dI)) (ci := 9) (v := .int 0) (C := RX9) (T := TX9) (N := 19) hx hb hts gX9 hown hK hP 0 rfl rfl 9 (by decide) (hts _ u_362) (fun _ h9 => h9) rfl dX9_passTick_25 ?_
  refine lv_istore_n (lv' := [(1, .int 0), (0, .ref h0)]) hx hb dX9_passTick_28 rfl hl (by decide) rfl (fun ls hl => ?_)
  refine lv_iconst (v := 0) hx hb dX9_passTick_29 (by decide) ?_
  refine lv_istore_n (lv' := [(2, .int 0), (1, .int 0), (0, .ref h0)]) hx hb dX9_passTick_30 rfl hl (by decide) rfl (fun ls hl => ?_)
  refine lv_iload_n hx hb dX9_passTick_31 rfl (lv_at hl 0 rfl) ?_
  refine lv_iload_n hx hb dX9_passTick_32 rfl (lv_at hl 1 rfl) ?_
  refine lv_icmp_ge (tgt := 117) hx hb dX9_passTick_33 (by decide) (fun _ => ?_) (fun h9 => absurd (by decide) h9)
  have hP := hP.sub (ws' := [(h0, .inr (9, oT w sg ro gT (nw + 1) 0 0 0)), (sg, .inr (7, oS w sn gS fr2897)), (sn, .inl (cS, 40, .inr (.inl f2898))), (w, .inr (10, oW kd gW 0 0)), (ro, .inr (6, oR w sg cuq902 spq906 gR stq901 0)), (cuq902, .inr (8, oB c1q903 gB1q905)), (c1q903, .inl (cC1q904, 10, .inl (fun _ => 0))), (spq906, .inr (8, oB c2q907 gB2q909)), (c2q907, .inl (cC2q908, 10, .inl (fun _ => 0)))]) [0, 1, 2, 4, 3, 5, 6, 7, 8] rfl
  have hD := hD.sub (ws' := [(h0, .inr (9, oT w sg ro gT (nw + 1) 0 0 0)), (sg, .inr (7, oS w sn gS fr2897)), (sn, .inl (cS, 40, .inr (.inl f2898))), (w, .inr (10, oW kd gW 0 0)), (ro, .inr (6, oR w sg cuq902 spq906 gR stq901 0)), (cuq902, .inr (8, oB c1q903 gB1q905)), (c1q903, .inl (cC1q904, 10, .inl (fun _ => 0))), (spq906, .inr (8, oB c2q907 gB2q909)), (c2q907, .inl (cC2q908, 10, .inl (fun _ => 0)))]) [0, 1, 2, 4, 3, 5, 6, 7, 8] (by decide) rfl
  have hK := hK.sub (tys' := [(cS, .long), (cC1q904, .int), (cC2q908, .int)]) [0, 1, 2] rfl
  refine W.widen (k := 0) (n := 0) (Nat.le_of_ble_eq_true rfl) (Nat.le_of_ble_eq_true rfl) ?_
  exact W.vret hx hb hr (fun t ht hW => ⟨⟨(), rfl, trivial, ⟨fr2897, f2898, stq901, cuq902, c1q903, cC1q904, gB1q905, spq906, c2q907, cC2q908, gB2q909, by rw [ht]; exact hP, va_K.moved hW.alike hK, hD⟩⟩, hS.F ht⟩) hS.2.2 dX9_passTick_117
set_option maxHeartbeats 4000000 in
set_option maxRecDepth 100000 in
theorem lp_tick {p : Program} {l : Launch} {e : Env} {R : Room} {s : State} {m : MethodId} {args : Array Value} {below : List Frame} {meth : Method} {c : Code} {Q : State → Prop} {dC : Nat → ClassId} {dI : Nat → Nat → Nat} {A : Nat → Prop} {cells slots : Nat} {h0 tr N : Nat} {gX : Nat → Nat} {w : Nat} {kd : Nat} {gW : Nat → Nat} {sg : Nat} {sn : Nat} {cS : ClassId} {gS : Nat → Nat} {ro : Nat} {gR : Nat → Nat} {gT : Nat → Nat} {a0 : Int32} (hN : N < 2 ^ 31) (eN : a0 = nI N) (hx : p.tables.exec = Jvm.exec) (hb : c.code = cX11_tick) (hml : c.maxLocals = 3) (hown : s.vm.findClass RX11 = some m.cls) (hts : ∀ w ∈ gU, w.before args s = true) (hE : gEnv s) (hA : ∀ q : Nat, s.heap.size ≤ q → A q)    (hRc : cells ≤ R.cells) (hRs : slots ≤ R.slots) (hRf : 6 ≤ R.frames) (hRl : 144 ≤ R.locals)
    (kk : ∀ (nw : Int32) (fr : Int32) (f : Nat → Int64) (st : Int32) (cu : Nat) (c1 : Nat) (cC1 : ClassId) (gB1 : Nat → Nat) (sp : Nat) (c2 : Nat) (cC2 : ClassId) (gB2 : Nat → Nat), nw = nI N → va_K (dC, dI) vwCl [(cS, .long), (cC1, .int), (cC2, .int)] s → ∀ (H : Heap) (locs : List Loc), va_P (dC, dI) vwCl [(h0, .inr (11, oX w sg ro tr gX)), (tr, .inr (9, oT w sg ro gT nw 0 0 0)), (sg, .inr (7, oS w sn gS fr)), (sn, .inl (cS, 40, .inr (.inl f))), (w, .inr (10, oW kd gW 0 0)), (ro, .inr (6, oR w sg cu sp gR st 0)), (cu, .inr (8, oB c1 gB1)), (c1, .inl (cC1, 10, .inl (fun _ => 0))), (sp, .inr (8, oB c2 gB2)), (c2, .inl (cC2, 10, .inl (fun _ => 0)))] H → va_D A [(h0, .inr (11, oX w sg ro tr gX)), (tr, .inr (9, oT w sg ro gT nw 0 0 0)), (sg, .inr (7, oS w sn gS fr)), (sn, .inl (cS, 40, .inr (.inl f))), (w, .inr (10, oW kd gW 0 0)), (ro, .inr (6, oR w sg cu sp gR st 0)), (cu, .inr (8, oB c1 gB1)), (c1, .inl (cC1, 10, .inl (fun _ => 0))), (sp, .inr (8, oB c2 gB2)), (c2, .inl (cC2, 10, .inl (fun _ => 0)))] → va_S A s.heap H locs → ∀ ls : Array Slot, lv_has ls 3 [(0, .ref h0), (1, .int a0), (2, .int (nI N))] → W p l e R s m args below meth c H locs cells slots Q (F0 m 39 ls [])) :
    ∀ (n i : Nat) (x : Int32) (nw : Int32) (fr : Int32) (f : Nat → Int64) (st : Int32) (cu : Nat) (c1 : Nat) (cC1 : ClassId) (gB1 : Nat → Nat) (sp : Nat) (c2 : Nat) (cC2 : ClassId) (gB2 : Nat → Nat), i ≤ N → N + 1 ≤ i + n → x = nI i → nw = nI i → va_K (dC, dI) vwCl [(cS, .long), (cC1, .int), (cC2, .int)] s → ∀ (H : Heap) (locs : List Loc), va_P (dC, dI) vwCl [(h0, .inr (11, oX w sg ro tr gX)), (tr, .inr (9, oT w sg ro gT nw 0 0 0)), (sg, .inr (7, oS w sn gS fr)), (sn, .inl (cS, 40, .inr (.inl f))), (w, .inr (10, oW kd gW 0 0)), (ro, .inr (6, oR w sg cu sp gR st 0)), (cu, .inr (8, oB c1 gB1)), (c1, .inl (cC1, 10, .inl (fun _ => 0))), (sp, .inr (8, oB c2 gB2)), (c2, .inl (cC2, 10, .inl (fun _ => 0)))] H → va_D A [(h0, .inr (11, oX w sg ro tr gX)), (tr, .inr (9, oT w sg ro gT nw 0 0 0)), (sg, .inr (7, oS w sn gS fr)), (sn, .inl (cS, 40, .inr (.inl f))), (w, .inr (10, oW kd gW 0 0)), (ro, .inr (6, oR w sg cu sp gR st 0)), (cu, .inr (8, oB c1 gB1)), (c1, .inl (cC1, 10, .inl (fun _ => 0))), (sp, .inr (8, oB c2 gB2)), (c2, .inl (cC2, 10, .inl (fun _ => 0)))] → va_S A s.heap H locs → ∀ ls : Array Slot, lv_has ls 3 [(0, .ref h0), (1, .int a0), (2, .int x)] → W p l e R s m args below meth c H locs cells slots Q (F0 m 21 ls []) := by
  intro n
  induction n with
  | zero => intro i x nw fr f st cu c1 cC1 gB1 sp c2 cC2 gB2 h1 h2; exact absurd h2 (by omega)
  | succ n ih =>
    intro i x nw fr f st cu c1 cC1 gB1 sp c2 cC2 gB2 hi hin ex en hK H locs hP hD hS ls hl
    refine lv_iload_n hx hb dX11_tick_21 rfl (lv_at hl 2 rfl) ?_
    refine lv_iload_n hx hb dX11_tick_22 rfl (lv_at hl 1 rfl) ?_
    refine lv_icmp_ge (tgt := 39) hx hb dX11_tick_23 (by decide) (fun c9 => ?_) (fun c9 => ?_)
    · have hiN := lpE (N := N) ex (by omega) hi (by rw [← eN]; exact c9)
      subst hiN
      subst ex
      exact kk nw fr f st cu c1 cC1 gB1 sp c2 cC2 gB2 en hK _ _ hP hD hS ls hl
    · have hiL := lpL (N := N) ex hi (by omega) (fun q => c9 (by rw [eN]; exact q))
      refine lv_aload_n hx hb dX11_tick_26 rfl (lv_at hl 0 rfl) ?_
      refine va_get (D := (dC, dI)) (ci := 11) (v := .ref tr) (C := RX11) (T := TX11) (N := 7) hx hb hts gX11 hown hK hP 0 rfl rfl 5 (by decide) (hts _ u_479) (fun _ h9 => h9) rfl dX11_tick_27 ?_
      have hPc := hP.sub (ws' := [(tr, .inr (9, oT w sg ro gT nw 0 0 0)), (sg, .inr (7, oS w sn gS fr)), (sn, .inl (cS, 40, .inr (.inl f))), (w, .inr (10, oW kd gW 0 0)), (ro, .inr (6, oR w sg cu sp gR st 0)), (cu, .inr (8, oB c1 gB1)), (c1, .inl (cC1, 10, .inl (fun _ => 0))), (sp, .inr (8, oB c2 gB2)), (c2, .inl (cC2, 10, .inl (fun _ => 0)))]) [1, 2, 3, 4, 5, 6, 7, 8, 9] rfl
      have hDc := hD.sub (ws' := [(tr, .inr (9, oT w sg ro gT nw 0 0 0)), (sg, .inr (7, oS w sn gS fr)), (sn, .inl (cS, 40, .inr (.inl f))), (w, .inr (10, oW kd gW 0 0)), (ro, .inr (6, oR w sg cu sp gR st 0)), (cu, .inr (8, oB c1 gB1)), (c1, .inl (cC1, 10, .inl (fun _ => 0))), (sp, .inr (8, oB c2 gB2)), (c2, .inl (cC2, 10, .inl (fun _ => 0)))]) [1, 2, 3, 4, 5, 6, 7, 8, 9] (by decide) rfl
      have hKc := hK.sub (tys' := [(cS, .long), (cC1, .int), (cC2, .int)]) [0, 1, 2] rfl
      have hFc := va_free (wc := [(tr, .inr (9, oT w sg ro gT nw 0 0 0)), (sg, .inr (7, oS w sn gS fr)), (sn, .inl (cS, 40, .inr (.inl f))), (w, .inr (10, oW kd gW 0 0)), (ro, .inr (6, oR w sg cu sp gR st 0)), (cu, .inr (8, oB c1 gB1)), (c1, .inl (cC1, 10, .inl (fun _ => 0))), (sp, .inr (8, oB c2 gB2)), (c2, .inl (cC2, 10, .inl (fun _ => 0)))]) hD hS hA [1, 2, 3, 4, 5, 6, 7, 8, 9] rfl
      refine va_callv (va_runV (As := []) (rest := []) ⟨hx, hb, hml, hown, hts⟩ (c_X9_passTick l dC dI H.size tr nw w kd gW sg sn cS gS ro gR gT fr f st cu c1 cC1 gB1 sp c2 cC2 gB2) (cwV 0 hts (gV u_900 u_901 u_902 u_10 u_903) rfl rfl rfl (by decide +kernel) ⟨Nat.le_trans (Nat.le_of_ble_eq_true rfl) hRf, Nat.le_trans (Nat.le_of_ble_eq_true rfl) hRl⟩) ⟨gP_blind, va_recv hKc hPc (ci := 9) (q0 := 0) rfl rfl, gP_call hPc hKc hDc hE⟩ rfl rfl hl.1 rfl (lv_room (Nat.le_of_ble_eq_true rfl)) dX11_tick_30 ⟨(by omega), (by omega)⟩) hS (fun q _ h => hFc q h) hFc (fun u9 t9 H910 locs ht hvm hw hB hz1 hk1 hS => ?_)
      obtain ⟨frq912, fq913, stq914, cuq915, c1q916, cC1q917, gB1q918, spq919, c2q920, cC2q921, gB2q922, hP1, hK1, hD1⟩ := hB
      rw [ht] at hP1
      have hK1 := va_K.moved hvm.symm hK1
      obtain ⟨hP, hD⟩ := va_join (wr := [(h0, .inr (11, oX w sg ro tr gX))]) (w1 := [(tr, .inr (9, oT w sg ro gT (nw + 1) 0 0 0)), (sg, .inr (7, oS w sn gS frq912)), (sn, .inl (cS, 40, .inr (.inl fq913))), (w, .inr (10, oW kd gW 0 0)), (ro, .inr (6, oR w sg cuq915 spq919 gR stq914 0)), (cuq915, .inr (8, oB c1q916 gB1q918)), (c1q916, .inl (cC1q917, 10, .inl (fun _ => 0))), (spq919, .inr (8, oB c2q920 gB2q922)), (c2q920, .inl (cC2q921, 10, .inl (fun _ => 0)))]) hP hD [1, 2, 3, 4, 5, 6, 7, 8, 9] [0] rfl rfl (by decide) (by decide) hk1 hFc hP1 hD1
      have hK := (hK.sub (tys' := []) [] rfl).app hK1
      have hK : va_K (dC, dI) vwCl [(cS, .long), (cC1q917, .int), (cC2q921, .int)] s := hK
      have hP : va_P (dC, dI) vwCl [(h0, .inr (11, oX w sg ro tr gX)), (tr, .inr (9, oT w sg ro gT (nw + 1) 0 0 0)), (sg, .inr (7, oS w sn gS frq912)), (sn, .inl (cS, 40, .inr (.inl fq913))), (w, .inr (10, oW kd gW 0 0)), (ro, .inr (6, oR w sg cuq915 spq919 gR stq914 0)), (cuq915, .inr (8, oB c1q916 gB1q918)), (c1q916, .inl (cC1q917, 10, .inl (fun _ => 0))), (spq919, .inr (8, oB c2q920 gB2q922)), (c2q920, .inl (cC2q921, 10, .inl (fun _ => 0)))] H910 := hP
      have hD : va_D A [(h0, .inr (11, oX w sg ro tr gX)), (tr, .inr (9, oT w sg ro gT (nw + 1) 0 0 0)), (sg, .inr (7, oS w sn gS frq912)), (sn, .inl (cS, 40, .inr (.inl fq913))), (w, .inr (10, oW kd gW 0 0)), (ro, .inr (6, oR w sg cuq915 spq919 gR stq914 0)), (cuq915, .inr (8, oB c1q916 gB1q918)), (c1q916, .inl (cC1q917, 10, .inl (fun _ => 0))), (spq919, .inr (8, oB c2q920 gB2q922)), (c2q920, .inl (cC2q921, 10, .inl (fun _ => 0)))] := hD
      obtain ⟨x923, ex923⟩ : ∃ y : Int32, y = x + 1 := ⟨_, rfl⟩
      refine lv_iinc (v := x923) (lv' := [(2, .int x923), (0, .ref h0), (1, .int a0)]) hx hb dX11_tick_33 hl (k := 2) rfl (by rw [ex923]; rfl) (by decide) rfl (fun ls hl => ?_)
      refine lv_goto (tgt := 21) hx hb dX11_tick_36 (by decide) ?_
      have hP := hP.sub (ws' := [(h0, .inr (11, oX w sg ro tr gX)), (tr, .inr (9, oT w sg ro gT (nw + 1) 0 0 0)), (sg, .inr (7, oS w sn gS frq912)), (sn, .inl (cS, 40, .inr (.inl fq913))), (w, .inr (10, oW kd gW 0 0)), (ro, .inr (6, oR w sg cuq915 spq919 gR stq914 0)), (cuq915, .inr (8, oB c1q916 gB1q918)), (c1q916, .inl (cC1q917, 10, .inl (fun _ => 0))), (spq919, .inr (8, oB c2q920 gB2q922)), (c2q920, .inl (cC2q921, 10, .inl (fun _ => 0)))]) [0, 1, 2, 3, 4, 5, 6, 7, 8, 9] rfl
      have hD := hD.sub (ws' := [(h0, .inr (11, oX w sg ro tr gX)), (tr, .inr (9, oT w sg ro gT (nw + 1) 0 0 0)), (sg, .inr (7, oS w sn gS frq912)), (sn, .inl (cS, 40, .inr (.inl fq913))), (w, .inr (10, oW kd gW 0 0)), (ro, .inr (6, oR w sg cuq915 spq919 gR stq914 0)), (cuq915, .inr (8, oB c1q916 gB1q918)), (c1q916, .inl (cC1q917, 10, .inl (fun _ => 0))), (spq919, .inr (8, oB c2q920 gB2q922)), (c2q920, .inl (cC2q921, 10, .inl (fun _ => 0)))]) [0, 1, 2, 3, 4, 5, 6, 7, 8, 9] (by decide) rfl
      have hK := hK.sub (tys' := [(cS, .long), (cC1q917, .int), (cC2q921, .int)]) [0, 1, 2] rfl
      exact ih (i + 1) x923 (nw + 1) frq912 fq913 stq914 cuq915 c1q916 cC1q917 gB1q918 spq919 c2q920 cC2q921 gB2q922 hiL (by omega) (by rw [ex923, ex]; exact nI_1 i) (by rw [en]; exact nI_1 i) hK _ _ hP hD hS ls (lv_sub hl [1, 2, 0] rfl)
set_option maxHeartbeats 4000000 in
set_option maxRecDepth 100000 in
theorem c_X11_tick (l : Launch) (dC : Nat → ClassId) (dI : Nat → Nat → Nat) (sz : Nat) (hfl : l.stackTraces = false) (h0 : Nat) (tr : Nat) (gX : Nat → Nat) (w : Nat) (kd : Nat) (gW : Nat → Nat) (sg : Nat) (sn : Nat) (cS : ClassId) (gS : Nat → Nat) (ro : Nat) (gR : Nat → Nat) (gT : Nat → Nat) (cu : Nat) (c1 : Nat) (cC1 : ClassId) (gB1 : Nat → Nat) (sp : Nat) (c2 : Nat) (cC2 : ClassId) (gB2 : Nat → Nat) (a0 : Int32) : vx_Met l yX11_tick (Cond.code yX11_tick cX11_tick 3 (some .int) :: gU) ({ frames := 7, cells := 1, slots := 6, locals := 160 }) (gPZ dC dI sz [(h0, .inr (11, oX w sg ro tr gX)), (tr, .inr (9, oT w sg ro gT 0 0 0 0)), (sg, .inr (7, oS w sn gS 0)), (sn, .inl (cS, 40, .inr (.inl (fun _ => 0)))), (w, .inr (10, oW kd gW 0 0)), (ro, .inr (6, oR w sg cu sp gR 0 0)), (cu, .inr (8, oB c1 gB1)), (c1, .inl (cC1, 10, .inl (fun _ => 0))), (sp, .inr (8, oB c2 gB2)), (c2, .inl (cC2, 10, .inl (fun _ => 0)))] [(cS, .long), (cC1, .int), (cC2, .int)] (va_A [(h0, .inr (11, oX w sg ro tr gX)), (tr, .inr (9, oT w sg ro gT 0 0 0 0)), (sg, .inr (7, oS w sn gS 0)), (sn, .inl (cS, 40, .inr (.inl (fun _ => 0)))), (w, .inr (10, oW kd gW 0 0)), (ro, .inr (6, oR w sg cu sp gR 0 0)), (cu, .inr (8, oB c1 gB1)), (c1, .inl (cC1, 10, .inl (fun _ => 0))), (sp, .inr (8, oB c2 gB2)), (c2, .inl (cC2, 10, .inl (fun _ => 0)))] sz) [.ref h0, .int a0]) (va_Qi (fun (r : Int32) (u9 : Unit) => r = a0 ∧ (1 ≤ a0 ∧ a0 ≤ 30)) (fun (u9 : Unit) (t9 : State) => va_P (dC, dI) vwCl [] t9.heap ∧ va_K (dC, dI) vwCl [] t9 ∧ va_D (va_A [(h0, .inr (11, oX w sg ro tr gX)), (tr, .inr (9, oT w sg ro gT 0 0 0 0)), (sg, .inr (7, oS w sn gS 0)), (sn, .inl (cS, 40, .inr (.inl (fun _ => 0)))), (w, .inr (10, oW kd gW 0 0)), (ro, .inr (6, oR w sg cu sp gR 0 0)), (cu, .inr (8, oB c1 gB1)), (c1, .inl (cC1, 10, .inl (fun _ => 0))), (sp, .inr (8, oB c2 gB2)), (c2, .inl (cC2, 10, .inl (fun _ => 0)))] sz) []) (va_A [(h0, .inr (11, oX w sg ro tr gX)), (tr, .inr (9, oT w sg ro gT 0 0 0 0)), (sg, .inr (7, oS w sn gS 0)), (sn, .inl (cS, 40, .inr (.inl (fun _ => 0)))), (w, .inr (10, oW kd gW 0 0)), (ro, .inr (6, oR w sg cu sp gR 0 0)), (cu, .inr (8, oB c1 gB1)), (c1, .inl (cC1, 10, .inl (fun _ => 0))), (sp, .inr (8, oB c2 gB2)), (c2, .inl (cC2, 10, .inl (fun _ => 0)))] sz)) (vx_X (fun _ : Unit => ¬ (1 ≤ a0 ∧ a0 ≤ 30)) (fun E9 _ _ => E9 = "java/lang/IllegalArgumentException") (va_A [(h0, .inr (11, oX w sg ro tr gX)), (tr, .inr (9, oT w sg ro gT 0 0 0 0)), (sg, .inr (7, oS w sn gS 0)), (sn, .inl (cS, 40, .inr (.inl (fun _ => 0)))), (w, .inr (10, oW kd gW 0 0)), (ro, .inr (6, oR w sg cu sp gR 0 0)), (cu, .inr (8, oB c1 gB1)), (c1, .inl (cC1, 10, .inl (fun _ => 0))), (sp, .inr (8, oB c2 gB2)), (c2, .inl (cC2, 10, .inl (fun _ => 0)))] sz)) 1 6 (va_A [(h0, .inr (11, oX w sg ro tr gX)), (tr, .inr (9, oT w sg ro gT 0 0 0 0)), (sg, .inr (7, oS w sn gS 0)), (sn, .inl (cS, 40, .inr (.inl (fun _ => 0)))), (w, .inr (10, oW kd gW 0 0)), (ro, .inr (6, oR w sg cu sp gR 0 0)), (cu, .inr (8, oB c1 gB1)), (c1, .inl (cC1, 10, .inl (fun _ => 0))), (sp, .inr (8, oB c2 gB2)), (c2, .inl (cC2, 10, .inl (fun _ => 0)))] sz) := by
  refine vx_ofW (cc := cX11_tick) (maxL := 3) (ret := (some .int)) (by decide) rfl ?_
  intro p e s m args below meth c s₁ B hml ht0 hv
  obtain ⟨rfl, hsz, hP, hK, hD0, hE, hZ⟩ := hv
  have hx := B.exec
  have hb := B.bytes
  have hr := B.returns
  have hts0 := atoms_spec (ws := Cond.code yX11_tick cX11_tick 3 (some .int) :: gU) B.pre
  have hts : ∀ w ∈ gU, w.before _ s = true := fun w h => hts0 w (List.mem_cons_of_mem _ h)
  have hown : s.vm.findClass RX11 = some m.cls := findClass_of_methodNamed B.named
  have hlocks := B.notSynchronized
  subst hsz
  have hD := hD0.self (sz := s.heap.size)
  generalize hAe : va_A [(h0, .inr (11, oX w sg ro tr gX)), (tr, .inr (9, oT w sg ro gT 0 0 0 0)), (sg, .inr (7, oS w sn gS 0)), (sn, .inl (cS, 40, .inr (.inl (fun _ => 0)))), (w, .inr (10, oW kd gW 0 0)), (ro, .inr (6, oR w sg cu sp gR 0 0)), (cu, .inr (8, oB c1 gB1)), (c1, .inl (cC1, 10, .inl (fun _ => 0))), (sp, .inr (8, oB c2 gB2)), (c2, .inl (cC2, 10, .inl (fun _ => 0)))] s.heap.size = A at hZ hD ⊢
  have hA : ∀ q : Nat, s.heap.size ≤ q → A q := fun q h => by rw [← hAe]; exact Or.inr h
  have hS : va_S A s.heap s.heap [] := va_S.rf
  have hP : va_P (dC, dI) vwCl [(h0, .inr (11, oX w sg ro tr gX)), (tr, .inr (9, oT w sg ro gT 0 0 0 0)), (sg, .inr (7, oS w sn gS 0)), (sn, .inl (cS, 40, .inr (.inl (fun _ => 0)))), (w, .inr (10, oW kd gW 0 0)), (ro, .inr (6, oR w sg cu sp gR 0 0)), (cu, .inr (8, oB c1 gB1)), (c1, .inl (cC1, 10, .inl (fun _ => 0))), (sp, .inr (8, oB c2 gB2)), (c2, .inl (cC2, 10, .inl (fun _ => 0)))] s.heap := hP
  have hl := lv_entry ([.ref h0, .int a0]) (n := 3) (Nat.le_of_ble_eq_true rfl)
  rw [lg_entry_eq]
  generalize (lg_sl ([.ref h0, .int a0]) ++ List.replicate (3 - (lg_sl ([.ref h0, .int a0])).length) Slot.unset).toArray = ls at hl ⊢
  have hl : lv_has ls 3 [(0, .ref h0), (1, .int a0)] := hl
  refine lv_iload_n hx hb dX11_tick_0 rfl (lv_at hl 1 rfl) ?_
  refine lv_iconst (v := 1) hx hb dX11_tick_1 (by decide) ?_
  refine lv_icmp_lt (tgt := 15) hx hb dX11_tick_2 (by decide) (fun h1 => ?_) (fun h1 => ?_)
  · refine lv_iconst (v := 0) hx hb dX11_tick_15 (by decide) ?_
    have hPc := hP.sub (ws' := []) [] rfl
    have hDc := hD.sub (ws' := []) [] (by decide) rfl
    have hKc := hK.sub (tys' := []) [] rfl
    have hFc := roF hS hA
    refine vx_callv (vx_runS (As := [.int 0]) (rest := []) ⟨hx, hb, hml, hown, hts⟩ (c_X11_needArgument l dC dI s.heap.size hfl 0) (va_cwS 1 hts (gSt u_509 u_510 u_1 u_511) rfl rfl rfl (by decide +kernel) ⟨Nat.le_of_ble_eq_true rfl, Nat.le_of_ble_eq_true rfl⟩) ⟨gPZ_blind, gPZ_call hPc hKc hDc hE hZ hS hFc⟩ rfl rfl hl.1 rfl (lv_room (Nat.le_of_ble_eq_true rfl)) dX11_tick_16 ⟨(Nat.le_of_ble_eq_true rfl), (Nat.le_of_ble_eq_true rfl)⟩) hS (fun q _ h => hFc q h) hFc (fun q _ h => hFc q h) (fun E9 ce9 q926 u9 t9 H924 locs ht hvm hpx hBX hz1 hk1 hS hce hcv hcl => ?_) (fun u9 t9 H924 locs ht hvm hw hB hz1 hk1 hS => ?_)
    · exact vx_out (fun x h => (ht0 x h).elim) hlocks hce hcv hcl (fun t ht _ => ⟨(), (fun q => i_lt_nle h1 q.1), hBX, hS.F ht⟩) hS.2.2 (Nat.le_of_ble_eq_true rfl) (Nat.le_of_ble_eq_true rfl)
    have hP := roP hP hk1
    refine W.widen (k := 1) (n := 6) (Nat.le_of_ble_eq_true rfl) (Nat.le_of_ble_eq_true rfl) ?_
    exact absurd rfl hw
  · refine lv_iload_n hx hb dX11_tick_5 rfl (lv_at hl 1 rfl) ?_
    refine lv_bipush (v := 30) hx hb dX11_tick_6 (by decide) ?_
    refine lv_icmp_gt (tgt := 15) hx hb dX11_tick_8 (by decide) (fun h2 => ?_) (fun h2 => ?_)
    · refine lv_iconst (v := 0) hx hb dX11_tick_15 (by decide) ?_
      have hPc := hP.sub (ws' := []) [] rfl
      have hDc := hD.sub (ws' := []) [] (by decide) rfl
      have hKc := hK.sub (tys' := []) [] rfl
      have hFc := roF hS hA
      refine vx_callv (vx_runS (As := [.int 0]) (rest := []) ⟨hx, hb, hml, hown, hts⟩ (c_X11_needArgument l dC dI s.heap.size hfl 0) (va_cwS 1 hts (gSt u_509 u_510 u_1 u_511) rfl rfl rfl (by decide +kernel) ⟨Nat.le_of_ble_eq_true rfl, Nat.le_of_ble_eq_true rfl⟩) ⟨gPZ_blind, gPZ_call hPc hKc hDc hE hZ hS hFc⟩ rfl rfl hl.1 rfl (lv_room (Nat.le_of_ble_eq_true rfl)) dX11_tick_16 ⟨(Nat.le_of_ble_eq_true rfl), (Nat.le_of_ble_eq_true rfl)⟩) hS (fun q _ h => hFc q h) hFc (fun q _ h => hFc q h) (fun E9 ce9 q929 u9 t9 H927 locs ht hvm hpx hBX hz1 hk1 hS hce hcv hcl => ?_) (fun u9 t9 H927 locs ht hvm hw hB hz1 hk1 hS => ?_)
      · exact vx_out (fun x h => (ht0 x h).elim) hlocks hce hcv hcl (fun t ht _ => ⟨(), (fun q => i_lt_nle h2 q.2), hBX, hS.F ht⟩) hS.2.2 (Nat.le_of_ble_eq_true rfl) (Nat.le_of_ble_eq_true rfl)
      have hP := roP hP hk1
      refine W.widen (k := 1) (n := 6) (Nat.le_of_ble_eq_true rfl) (Nat.le_of_ble_eq_true rfl) ?_
      exact absurd rfl hw
    · refine lv_iconst (v := 1) hx hb dX11_tick_11 (by decide) ?_
      refine lv_goto (tgt := 16) hx hb dX11_tick_12 (by decide) ?_
      have hPc := hP.sub (ws' := []) [] rfl
      have hDc := hD.sub (ws' := []) [] (by decide) rfl
      have hKc := hK.sub (tys' := []) [] rfl
      have hFc := roF hS hA
      refine vx_callv (vx_runS (As := [.int 1]) (rest := []) ⟨hx, hb, hml, hown, hts⟩ (c_X11_needArgument l dC dI s.heap.size hfl 1) (va_cwS 1 hts (gSt u_509 u_510 u_1 u_511) rfl rfl rfl (by decide +kernel) ⟨Nat.le_of_ble_eq_true rfl, Nat.le_of_ble_eq_true rfl⟩) ⟨gPZ_blind, gPZ_call hPc hKc hDc hE hZ hS hFc⟩ rfl rfl hl.1 rfl (lv_room (Nat.le_of_ble_eq_true rfl)) dX11_tick_16 ⟨(Nat.le_of_ble_eq_true rfl), (Nat.le_of_ble_eq_true rfl)⟩) hS (fun q _ h => hFc q h) hFc (fun q _ h => hFc q h) (fun E9 ce9 q932 u9 t9 H930 locs ht hvm hpx hBX hz1 hk1 hS hce hcv hcl => ?_) (fun u9 t9 H930 locs ht hvm hw hB hz1 hk1 hS => ?_)
      · exact absurd hpx (by decide)
      have hP := roP hP hk1
      refine W.widen (k := 1) (n := 6) (Nat.le_of_ble_eq_true rfl) (Nat.le_of_ble_eq_true rfl) ?_
      refine lv_iconst (v := 0) hx hb dX11_tick_19 (by decide) ?_
      refine lv_istore_n (lv' := [(2, .int 0), (0, .ref h0), (1, .int a0)]) hx hb dX11_tick_20 rfl hl (by decide) rfl (fun ls hl => ?_)
      have hP := hP.sub (ws' := [(h0, .inr (11, oX w sg ro tr gX)), (tr, .inr (9, oT w sg ro gT 0 0 0 0)), (sg, .inr (7, oS w sn gS 0)), (sn, .inl (cS, 40, .inr (.inl (fun _ => 0)))), (w, .inr (10, oW kd gW 0 0)), (ro, .inr (6, oR w sg cu sp gR 0 0)), (cu, .inr (8, oB c1 gB1)), (c1, .inl (cC1, 10, .inl (fun _ => 0))), (sp, .inr (8, oB c2 gB2)), (c2, .inl (cC2, 10, .inl (fun _ => 0)))]) [0, 1, 2, 3, 4, 5, 6, 7, 8, 9] rfl
      have hD := hD.sub (ws' := [(h0, .inr (11, oX w sg ro tr gX)), (tr, .inr (9, oT w sg ro gT 0 0 0 0)), (sg, .inr (7, oS w sn gS 0)), (sn, .inl (cS, 40, .inr (.inl (fun _ => 0)))), (w, .inr (10, oW kd gW 0 0)), (ro, .inr (6, oR w sg cu sp gR 0 0)), (cu, .inr (8, oB c1 gB1)), (c1, .inl (cC1, 10, .inl (fun _ => 0))), (sp, .inr (8, oB c2 gB2)), (c2, .inl (cC2, 10, .inl (fun _ => 0)))]) [0, 1, 2, 3, 4, 5, 6, 7, 8, 9] (by decide) rfl
      have hK := hK.sub (tys' := [(cS, .long), (cC1, .int), (cC2, .int)]) [0, 1, 2] rfl
      obtain ⟨N, hN30, eN⟩ := rng30 ⟨i_nlt h1, i_nlt h2⟩
      refine lp_tick (N := N) (by omega) eN hx hb hml hown hts hE hA (Nat.le_of_ble_eq_true rfl) (Nat.le_of_ble_eq_true rfl) (Nat.le_of_ble_eq_true rfl) (Nat.le_of_ble_eq_true rfl) (fun z933 z934 z935 z936 z937 z938 z939 z940 z941 z942 z943 z944 en hK H945 locs hP hD hS ls hl => ?_) (N + 1) 0 0 0 0 (fun _ => 0) 0 cu c1 cC1 gB1 sp c2 cC2 gB2 (Nat.zero_le N) (by omega) nI_0.symm nI_0.symm hK _ _ hP hD hS ls (lv_sub hl [1, 2, 0] rfl)
      refine lv_aload_n hx hb dX11_tick_39 rfl (lv_at hl 0 rfl) ?_
      refine va_get (D := (dC, dI)) (ci := 11) (v := .ref tr) (C := RX11) (T := TX11) (N := 7) hx hb hts gX11 hown hK hP 0 rfl rfl 5 (by decide) (hts _ u_479) (fun _ h9 => h9) rfl dX11_tick_40 ?_
      refine va_getN (D := (dC, dI)) (ci := 9) (v := .int z933) (C := RX9) (T := TX9) (N := 19) hx hb hts gX9 hown hK hP 1 rfl rfl 6 (by decide) (va_Nw.use rfl (hE.1 _ n_2)) (fun _ h9 => h9) rfl dX11_tick_43 ?_
      have hP := hP.sub (ws' := []) [] rfl
      have hD := hD.sub (ws' := []) [] (by decide) rfl
      have hK := hK.sub (tys' := []) [] rfl
      refine W.widen (k := 1) (n := 6) (Nat.le_of_ble_eq_true rfl) (Nat.le_of_ble_eq_true rfl) ?_
      refine vx_ret ?_
      exact W.iret (v := z933) hx hb hr (fun t ht hW => ⟨⟨z933, (), rfl, ⟨by rw [en, eN], i_nlt h1, i_nlt h2⟩, ⟨by rw [ht]; exact hP, va_K.moved hW.alike hK, hD⟩⟩, hS.F ht⟩) hS.2.2 dX11_tick_46
set_option maxHeartbeats 4000000 in
set_option maxRecDepth 100000 in
theorem c_L_tick (l : Launch) (dC : Nat → ClassId) (dI : Nat → Nat → Nat) (sz : Nat) (hfl : l.stackTraces = false) (h0 : Nat) (tr : Nat) (gX : Nat → Nat) (w : Nat) (kd : Nat) (gW : Nat → Nat) (sg : Nat) (sn : Nat) (cS : ClassId) (gS : Nat → Nat) (ro : Nat) (gR : Nat → Nat) (gT : Nat → Nat) (cu : Nat) (c1 : Nat) (cC1 : ClassId) (gB1 : Nat → Nat) (sp : Nat) (c2 : Nat) (cC2 : ClassId) (gB2 : Nat → Nat) (a0 : Int32) (ou : Nat) (cO : ClassId) (fO : Nat → Int64) : Met l yL_tick (Cond.codeWith yL_tick cL_tick 4 (some .int) [(0, 9, 12, 13)] :: gU) ({ frames := 8, cells := 1, slots := 6, locals := 182 }) (gPZ dC dI sz [(h0, .inr (11, oX w sg ro tr gX)), (tr, .inr (9, oT w sg ro gT 0 0 0 0)), (sg, .inr (7, oS w sn gS 0)), (sn, .inl (cS, 40, .inr (.inl (fun _ => 0)))), (w, .inr (10, oW kd gW 0 0)), (ro, .inr (6, oR w sg cu sp gR 0 0)), (cu, .inr (8, oB c1 gB1)), (c1, .inl (cC1, 10, .inl (fun _ => 0))), (sp, .inr (8, oB c2 gB2)), (c2, .inl (cC2, 10, .inl (fun _ => 0))), (ou, .inl (cO, 1, .inr (.inl fO)))] [(cS, .long), (cC1, .int), (cC2, .int), (cO, .long)] (va_A [(h0, .inr (11, oX w sg ro tr gX)), (tr, .inr (9, oT w sg ro gT 0 0 0 0)), (sg, .inr (7, oS w sn gS 0)), (sn, .inl (cS, 40, .inr (.inl (fun _ => 0)))), (w, .inr (10, oW kd gW 0 0)), (ro, .inr (6, oR w sg cu sp gR 0 0)), (cu, .inr (8, oB c1 gB1)), (c1, .inl (cC1, 10, .inl (fun _ => 0))), (sp, .inr (8, oB c2 gB2)), (c2, .inl (cC2, 10, .inl (fun _ => 0))), (ou, .inl (cO, 1, .inr (.inl fO)))] sz) [.ref h0, .int a0, .ref ou]) (va_Qi (fun (r : Int32) (u9 : Nat → Int64) => ((1 ≤ a0 ∧ a0 ≤ 30) → r = 0 ∧ u9 0 = a0.toInt64) ∧ (¬ (1 ≤ a0 ∧ a0 ≤ 30) → r = 1)) (fun (u9 : Nat → Int64) (t9 : State) => va_P (dC, dI) vwCl [(ou, .inl (cO, 1, .inr (.inl u9)))] t9.heap ∧ va_K (dC, dI) vwCl [(cO, .long)] t9 ∧ va_D (va_A [(h0, .inr (11, oX w sg ro tr gX)), (tr, .inr (9, oT w sg ro gT 0 0 0 0)), (sg, .inr (7, oS w sn gS 0)), (sn, .inl (cS, 40, .inr (.inl (fun _ => 0)))), (w, .inr (10, oW kd gW 0 0)), (ro, .inr (6, oR w sg cu sp gR 0 0)), (cu, .inr (8, oB c1 gB1)), (c1, .inl (cC1, 10, .inl (fun _ => 0))), (sp, .inr (8, oB c2 gB2)), (c2, .inl (cC2, 10, .inl (fun _ => 0))), (ou, .inl (cO, 1, .inr (.inl fO)))] sz) [(ou, .inl (cO, 1, .inr (.inl u9)))]) (va_A [(h0, .inr (11, oX w sg ro tr gX)), (tr, .inr (9, oT w sg ro gT 0 0 0 0)), (sg, .inr (7, oS w sn gS 0)), (sn, .inl (cS, 40, .inr (.inl (fun _ => 0)))), (w, .inr (10, oW kd gW 0 0)), (ro, .inr (6, oR w sg cu sp gR 0 0)), (cu, .inr (8, oB c1 gB1)), (c1, .inl (cC1, 10, .inl (fun _ => 0))), (sp, .inr (8, oB c2 gB2)), (c2, .inl (cC2, 10, .inl (fun _ => 0))), (ou, .inl (cO, 1, .inr (.inl fO)))] sz)) 1 6 (va_A [(h0, .inr (11, oX w sg ro tr gX)), (tr, .inr (9, oT w sg ro gT 0 0 0 0)), (sg, .inr (7, oS w sn gS 0)), (sn, .inl (cS, 40, .inr (.inl (fun _ => 0)))), (w, .inr (10, oW kd gW 0 0)), (ro, .inr (6, oR w sg cu sp gR 0 0)), (cu, .inr (8, oB c1 gB1)), (c1, .inl (cC1, 10, .inl (fun _ => 0))), (sp, .inr (8, oB c2 gB2)), (c2, .inl (cC2, 10, .inl (fun _ => 0))), (ou, .inl (cO, 1, .inr (.inl fO)))] sz) := by
  refine va_MetW (cc := cL_tick) (maxL := 4) (ret := (some .int)) (by decide) rfl ?_
  intro p e s m args below meth c s₁ B hml hv
  obtain ⟨rfl, hsz, hP, hK, hD0, hE, hZ⟩ := hv
  have hx := B.exec
  have hb := B.bytes
  have hr := B.returns
  have hts0 := atoms_spec (ws := Cond.codeWith yL_tick cL_tick 4 (some .int) [(0, 9, 12, 13)] :: gU) B.pre
  have hts : ∀ w ∈ gU, w.before _ s = true := fun w h => hts0 w (List.mem_cons_of_mem _ h)
  have hown : s.vm.findClass RL = some m.cls := findClass_of_methodNamed B.named
  have hlocks := B.notSynchronized
  have htab := vx_table (x := yL_tick) B (hts0 _ List.mem_cons_self)
  subst hsz
  have hD := hD0.self (sz := s.heap.size)
  generalize hAe : va_A [(h0, .inr (11, oX w sg ro tr gX)), (tr, .inr (9, oT w sg ro gT 0 0 0 0)), (sg, .inr (7, oS w sn gS 0)), (sn, .inl (cS, 40, .inr (.inl (fun _ => 0)))), (w, .inr (10, oW kd gW 0 0)), (ro, .inr (6, oR w sg cu sp gR 0 0)), (cu, .inr (8, oB c1 gB1)), (c1, .inl (cC1, 10, .inl (fun _ => 0))), (sp, .inr (8, oB c2 gB2)), (c2, .inl (cC2, 10, .inl (fun _ => 0))), (ou, .inl (cO, 1, .inr (.inl fO)))] s.heap.size = A at hZ hD ⊢
  have hA : ∀ q : Nat, s.heap.size ≤ q → A q := fun q h => by rw [← hAe]; exact Or.inr h
  have hS : va_S A s.heap s.heap [] := va_S.rf
  have hP : va_P (dC, dI) vwCl [(h0, .inr (11, oX w sg ro tr gX)), (tr, .inr (9, oT w sg ro gT 0 0 0 0)), (sg, .inr (7, oS w sn gS 0)), (sn, .inl (cS, 40, .inr (.inl (fun _ => 0)))), (w, .inr (10, oW kd gW 0 0)), (ro, .inr (6, oR w sg cu sp gR 0 0)), (cu, .inr (8, oB c1 gB1)), (c1, .inl (cC1, 10, .inl (fun _ => 0))), (sp, .inr (8, oB c2 gB2)), (c2, .inl (cC2, 10, .inl (fun _ => 0))), (ou, .inl (cO, 1, .inr (.inl fO)))] s.heap := hP
  have hl := lv_entry ([.ref h0, .int a0, .ref ou]) (n := 4) (Nat.le_of_ble_eq_true rfl)
  rw [lg_entry_eq]
  generalize (lg_sl ([.ref h0, .int a0, .ref ou]) ++ List.replicate (4 - (lg_sl ([.ref h0, .int a0, .ref ou])).length) Slot.unset).toArray = ls at hl ⊢
  have hl : lv_has ls 4 [(0, .ref h0), (1, .int a0), (2, .ref ou)] := hl
  refine lv_aload_n hx hb dL_tick_0 rfl (lv_at hl 2 rfl) ?_
  refine lv_iconst (v := 0) hx hb dL_tick_1 (by decide) ?_
  refine lv_aload_n hx hb dL_tick_2 rfl (lv_at hl 0 rfl) ?_
  refine lv_iload_n hx hb dL_tick_3 rfl (lv_at hl 1 rfl) ?_
  have hPc := hP.sub (ws' := [(h0, .inr (11, oX w sg ro tr gX)), (tr, .inr (9, oT w sg ro gT 0 0 0 0)), (sg, .inr (7, oS w sn gS 0)), (sn, .inl (cS, 40, .inr (.inl (fun _ => 0)))), (w, .inr (10, oW kd gW 0 0)), (ro, .inr (6, oR w sg cu sp gR 0 0)), (cu, .inr (8, oB c1 gB1)), (c1, .inl (cC1, 10, .inl (fun _ => 0))), (sp, .inr (8, oB c2 gB2)), (c2, .inl (cC2, 10, .inl (fun _ => 0)))]) [0, 1, 2, 3, 4, 5, 6, 7, 8, 9] rfl
  have hDc := hD.sub (ws' := [(h0, .inr (11, oX w sg ro tr gX)), (tr, .inr (9, oT w sg ro gT 0 0 0 0)), (sg, .inr (7, oS w sn gS 0)), (sn, .inl (cS, 40, .inr (.inl (fun _ => 0)))), (w, .inr (10, oW kd gW 0 0)), (ro, .inr (6, oR w sg cu sp gR 0 0)), (cu, .inr (8, oB c1 gB1)), (c1, .inl (cC1, 10, .inl (fun _ => 0))), (sp, .inr (8, oB c2 gB2)), (c2, .inl (cC2, 10, .inl (fun _ => 0)))]) [0, 1, 2, 3, 4, 5, 6, 7, 8, 9] (by decide) rfl
  have hKc := hK.sub (tys' := [(cS, .long), (cC1, .int), (cC2, .int)]) [0, 1, 2] rfl
  have hFc := va_free (wc := [(h0, .inr (11, oX w sg ro tr gX)), (tr, .inr (9, oT w sg ro gT 0 0 0 0)), (sg, .inr (7, oS w sn gS 0)), (sn, .inl (cS, 40, .inr (.inl (fun _ => 0)))), (w, .inr (10, oW kd gW 0 0)), (ro, .inr (6, oR w sg cu sp gR 0 0)), (cu, .inr (8, oB c1 gB1)), (c1, .inl (cC1, 10, .inl (fun _ => 0))), (sp, .inr (8, oB c2 gB2)), (c2, .inl (cC2, 10, .inl (fun _ => 0)))]) hD hS hA [0, 1, 2, 3, 4, 5, 6, 7, 8, 9] rfl
  refine vx_calli (vx_runV (As := [.int a0]) (rest := [.int 0, .ref ou]) ⟨hx, hb, hml, hown, hts⟩ (c_X11_tick l dC dI s.heap.size hfl h0 tr gX w kd gW sg sn cS gS ro gR gT cu c1 cC1 gB1 sp c2 cC2 gB2 a0) (cwV 1 hts (gV u_896 u_897 u_898 u_1 u_899) rfl rfl rfl (by decide +kernel) ⟨Nat.le_of_ble_eq_true rfl, Nat.le_of_ble_eq_true rfl⟩) ⟨gPZ_blind, va_recv hKc hPc (ci := 11) (q0 := 0) rfl rfl, gPZ_call hPc hKc hDc hE hZ hS hFc⟩ rfl rfl hl.1 rfl (lv_room (Nat.le_of_ble_eq_true rfl)) dL_tick_4 ⟨(Nat.le_of_ble_eq_true rfl), (Nat.le_of_ble_eq_true rfl)⟩) hS (fun q _ h => hFc q h) hFc (fun q _ h => hFc q h) (fun E9 ce9 q948 u9 t9 H946 locs ht hvm hpx hBX hz1 hk1 hS hce hcv hcl => ?_) (fun r947 u9 t9 H946 locs ht hvm hw hB hz1 hk1 hS => ?_)
  · subst hBX
    refine vx_widen (k := 1) (n := 6) (Nat.le_of_ble_eq_true rfl) (Nat.le_of_ble_eq_true rfl) ?_
    refine vx_catch (pc := 4) hown [] ⟨0, 9, 12, 13⟩ [] (by rw [htab]; rfl) (fun z hz => nomatch hz) (by decide) (by decide) (hts _ u_503) (va_Nw.use rfl (hE.1 _ n_9)) hce hcv hcl ?_
    obtain ⟨hP, hD⟩ := va_join (wr := [(ou, .inl (cO, 1, .inr (.inl fO)))]) (w1 := []) hP hD [0, 1, 2, 3, 4, 5, 6, 7, 8, 9] [10] rfl rfl (by decide) (by decide) hk1 hFc (fun k q h => by simp at h) ⟨fun i j p q h => by simp at h, fun k q h => by simp at h⟩
    have hK := hK.sub (tys' := [(cO, .long)]) [3] rfl
    have hP : va_P (dC, dI) vwCl [(ou, .inl (cO, 1, .inr (.inl fO)))] H946 := hP
    have hD : va_D A [(ou, .inl (cO, 1, .inr (.inl fO)))] := hD
    refine lv_astore_n (lv' := [(3, .ref q948), (0, .ref h0), (1, .int a0), (2, .ref ou)]) hx hb dL_tick_12 rfl hl (by decide) rfl (fun ls hl => ?_)
    refine lv_iconst (v := 1) hx hb dL_tick_13 (by decide) ?_
    refine W.widen (k := 1) (n := 6) (Nat.le_of_ble_eq_true rfl) (Nat.le_of_ble_eq_true rfl) ?_
    exact W.iret (v := 1) hx hb hr (fun t ht hW => ⟨⟨1, fO, rfl, ⟨fun hy => absurd hy hpx, fun _ => rfl⟩, ⟨by rw [ht]; exact hP, va_K.moved hW.alike hK, hD⟩⟩, hS.F ht⟩) hS.2.2 dL_tick_14
  obtain ⟨hP1, hK1, hD1⟩ := hB
  rw [ht] at hP1
  have hK1 := va_K.moved hvm.symm hK1
  obtain ⟨hP, hD⟩ := va_join (wr := [(ou, .inl (cO, 1, .inr (.inl fO)))]) (w1 := []) hP hD [0, 1, 2, 3, 4, 5, 6, 7, 8, 9] [10] rfl rfl (by decide) (by decide) hk1 hFc hP1 hD1
  have hK := (hK.sub (tys' := [(cO, .long)]) [3] rfl).app hK1
  have hK : va_K (dC, dI) vwCl [(cO, .long)] s := hK
  have hP : va_P (dC, dI) vwCl [(ou, .inl (cO, 1, .inr (.inl fO)))] H946 := hP
  have hD : va_D A [(ou, .inl (cO, 1, .inr (.inl fO)))] := hD
  refine W.widen (k := 1) (n := 6) (Nat.le_of_ble_eq_true rfl) (Nat.le_of_ble_eq_true rfl) ?_
  obtain ⟨hr0, hrng⟩ := hw
  rw [hr0]
  refine lv_i2l hx hb dL_tick_7 rfl ?_
  refine va_last hx hb hK hP hD hS 0 0 rfl rfl (by unfold vp_in; decide) dL_tick_8 (fun H949 locs hP hD hS => ?_)
  generalize hff950 : vp_updL fO (0 : Int32).toNatClampNeg a0.toInt64 = f950 at hP hD
  have hP : va_P (dC, dI) vwCl [(ou, .inl (cO, 1, .inr (.inl f950)))] H949 := hP
  have hD : va_D A [(ou, .inl (cO, 1, .inr (.inl f950)))] := hD
  refine lv_goto (tgt := 15) hx hb dL_tick_9 (by decide) ?_
  refine lv_iconst (v := 0) hx hb dL_tick_15 (by decide) ?_
  refine W.widen (k := 1) (n := 6) (Nat.le_of_ble_eq_true rfl) (Nat.le_of_ble_eq_true rfl) ?_
  exact W.iret (v := 0) hx hb hr (fun t ht hW => ⟨⟨0, f950, rfl, ⟨fun _ => ⟨rfl, by rw [← hff950]; rfl⟩, fun hn => absurd hrng hn⟩, ⟨by rw [ht]; exact hP, va_K.moved hW.alike hK, hD⟩⟩, hS.F ht⟩) hS.2.2 dL_tick_16
