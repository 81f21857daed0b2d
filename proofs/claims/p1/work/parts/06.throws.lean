theorem dX11_address_0 : decode cX11_address 0 = .ok (.aload_n 0, 1) := by decide +kernel
theorem dX11_address_1 : decode cX11_address 1 = .ok (.iload_n 1, 1) := by decide +kernel
theorem dX11_address_2 : decode cX11_address 2 = .ok (.invokevirtual 75, 3) := by decide +kernel
theorem dX11_cable_0 : decode cX11_cable 0 = .ok (.aload_n 0, 1) := by decide +kernel
theorem dX11_cable_1 : decode cX11_cable 1 = .ok (.iload_n 1, 1) := by decide +kernel
theorem dX11_cable_2 : decode cX11_cable 2 = .ok (.invokevirtual 75, 3) := by decide +kernel
theorem dX11_fate_0 : decode cX11_fate 0 = .ok (.aload_n 0, 1) := by decide +kernel
theorem dX11_fate_1 : decode cX11_fate 1 = .ok (.iload_n 1, 1) := by decide +kernel
theorem dX11_fate_2 : decode cX11_fate 2 = .ok (.invokevirtual 175, 3) := by decide +kernel
theorem dX11_gateway_0 : decode cX11_gateway 0 = .ok (.aload_n 0, 1) := by decide +kernel
theorem dX11_gateway_1 : decode cX11_gateway 1 = .ok (.iload_n 1, 1) := by decide +kernel
theorem dX11_gateway_2 : decode cX11_gateway 2 = .ok (.invokevirtual 130, 3) := by decide +kernel
theorem dX11_isBlocked_0 : decode cX11_isBlocked 0 = .ok (.aload_n 0, 1) := by decide +kernel
theorem dX11_isBlocked_1 : decode cX11_isBlocked 1 = .ok (.iload_n 1, 1) := by decide +kernel
theorem dX11_isBlocked_2 : decode cX11_isBlocked 2 = .ok (.invokevirtual 89, 3) := by decide +kernel
theorem dX11_learnt_0 : decode cX11_learnt 0 = .ok (.aload_n 0, 1) := by decide +kernel
theorem dX11_learnt_1 : decode cX11_learnt 1 = .ok (.iload_n 1, 1) := by decide +kernel
theorem dX11_learnt_2 : decode cX11_learnt 2 = .ok (.invokevirtual 130, 3) := by decide +kernel
theorem dX11_net_0 : decode cX11_net 0 = .ok (.aload_n 0, 1) := by decide +kernel
theorem dX11_net_1 : decode cX11_net 1 = .ok (.iload_n 1, 1) := by decide +kernel
theorem dX11_net_2 : decode cX11_net 2 = .ok (.invokevirtual 75, 3) := by decide +kernel
theorem dX11_noted_0 : decode cX11_noted 0 = .ok (.aload_n 0, 1) := by decide +kernel
theorem dX11_noted_1 : decode cX11_noted 1 = .ok (.iload_n 1, 1) := by decide +kernel
theorem dX11_noted_2 : decode cX11_noted 2 = .ok (.invokevirtual 130, 3) := by decide +kernel
theorem dX11_pool_0 : decode cX11_pool 0 = .ok (.aload_n 0, 1) := by decide +kernel
theorem dX11_pool_1 : decode cX11_pool 1 = .ok (.iload_n 1, 1) := by decide +kernel
theorem dX11_pool_2 : decode cX11_pool 2 = .ok (.invokevirtual 75, 3) := by decide +kernel
theorem dX11_proved_0 : decode cX11_proved 0 = .ok (.aload_n 0, 1) := by decide +kernel
theorem dX11_proved_1 : decode cX11_proved 1 = .ok (.iload_n 1, 1) := by decide +kernel
theorem dX11_proved_2 : decode cX11_proved 2 = .ok (.invokevirtual 130, 3) := by decide +kernel
theorem dX11_reach_0 : decode cX11_reach 0 = .ok (.aload_n 0, 1) := by decide +kernel
theorem dX11_reach_1 : decode cX11_reach 1 = .ok (.iload_n 1, 1) := by decide +kernel
theorem dX11_reach_2 : decode cX11_reach 2 = .ok (.invokevirtual 130, 3) := by decide +kernel
theorem dX11_reachAnew_0 : decode cX11_reachAnew 0 = .ok (.aload_n 0, 1) := by decide +kernel
theorem dX11_reachAnew_1 : decode cX11_reachAnew 1 = .ok (.iload_n 1, 1) := by decide +kernel
theorem dX11_reachAnew_2 : decode cX11_reachAnew 2 = .ok (.invokevirtual 130, 3) := by decide +kernel
theorem dX11_route_0 : decode cX11_route 0 = .ok (.aload_n 0, 1) := by decide +kernel
theorem dX11_route_1 : decode cX11_route 1 = .ok (.iload_n 1, 1) := by decide +kernel
theorem dX11_route_2 : decode cX11_route 2 = .ok (.invokevirtual 130, 3) := by decide +kernel
theorem dX11_rule_0 : decode cX11_rule 0 = .ok (.aload_n 0, 1) := by decide +kernel
theorem dX11_rule_1 : decode cX11_rule 1 = .ok (.iload_n 1, 1) := by decide +kernel
theorem dX11_rule_2 : decode cX11_rule 2 = .ok (.invokevirtual 130, 3) := by decide +kernel
theorem dX11_sees_0 : decode cX11_sees 0 = .ok (.aload_n 0, 1) := by decide +kernel
theorem dX11_sees_1 : decode cX11_sees 1 = .ok (.iload_n 1, 1) := by decide +kernel
theorem dX11_sees_2 : decode cX11_sees 2 = .ok (.invokevirtual 75, 3) := by decide +kernel
theorem dX11_send_0 : decode cX11_send 0 = .ok (.aload_n 0, 1) := by decide +kernel
theorem dX11_send_1 : decode cX11_send 1 = .ok (.iload_n 1, 1) := by decide +kernel
theorem dX11_send_2 : decode cX11_send 2 = .ok (.invokevirtual 130, 3) := by decide +kernel
theorem dX11_source_0 : decode cX11_source 0 = .ok (.aload_n 0, 1) := by decide +kernel
theorem dX11_source_1 : decode cX11_source 1 = .ok (.iload_n 1, 1) := by decide +kernel
theorem dX11_source_2 : decode cX11_source 2 = .ok (.invokevirtual 175, 3) := by decide +kernel
theorem dX11_turn_0 : decode cX11_turn 0 = .ok (.aload_n 0, 1) := by decide +kernel
theorem dX11_turn_1 : decode cX11_turn 1 = .ok (.iload_n 1, 1) := by decide +kernel
theorem dX11_turn_2 : decode cX11_turn 2 = .ok (.invokevirtual 89, 3) := by decide +kernel
theorem dX11_watch_0 : decode cX11_watch 0 = .ok (.aload_n 0, 1) := by decide +kernel
theorem dX11_watch_1 : decode cX11_watch 1 = .ok (.iload_n 1, 1) := by decide +kernel
theorem dX11_watch_2 : decode cX11_watch 2 = .ok (.invokevirtual 130, 3) := by decide +kernel
theorem dX11_way_0 : decode cX11_way 0 = .ok (.aload_n 0, 1) := by decide +kernel
theorem dX11_way_1 : decode cX11_way 1 = .ok (.iload_n 1, 1) := by decide +kernel
theorem dX11_way_2 : decode cX11_way 2 = .ok (.invokevirtual 130, 3) := by decide +kernel
theorem dX11_where_0 : decode cX11_where 0 = .ok (.aload_n 0, 1) := by decide +kernel
theorem dX11_where_1 : decode cX11_where 1 = .ok (.iload_n 1, 1) := by decide +kernel
theorem dX11_where_2 : decode cX11_where 2 = .ok (.invokevirtual 175, 3) := by decide +kernel
theorem u_611 : Cond.methodLink RX11 75 yX11_needPort ∈ gU := gm (i := 611) (by decide +kernel) (by decide +kernel)
theorem u_613 : Cond.instanceMethod yX11_needPort ∈ gU := gm (i := 613) (by decide +kernel) (by decide +kernel)
theorem u_614 : Cond.code yX11_needPort cX11_needPort 2 none ∈ gU := gm (i := 614) (by decide +kernel) (by decide +kernel)
theorem u_701 : Cond.methodLink RX11 89 yX11_needCable ∈ gU := gm (i := 701) (by decide +kernel) (by decide +kernel)
theorem u_703 : Cond.instanceMethod yX11_needCable ∈ gU := gm (i := 703) (by decide +kernel) (by decide +kernel)
theorem u_704 : Cond.code yX11_needCable cX11_needCable 2 none ∈ gU := gm (i := 704) (by decide +kernel) (by decide +kernel)
theorem u_782 : Cond.methodLink RX11 130 yX11_needBox ∈ gU := gm (i := 782) (by decide +kernel) (by decide +kernel)
theorem u_784 : Cond.instanceMethod yX11_needBox ∈ gU := gm (i := 784) (by decide +kernel) (by decide +kernel)
theorem u_785 : Cond.code yX11_needBox cX11_needBox 2 none ∈ gU := gm (i := 785) (by decide +kernel) (by decide +kernel)
theorem u_1052 : Cond.methodLink RX11 175 yX11_needPacket ∈ gU := gm (i := 1052) (by decide +kernel) (by decide +kernel)
theorem u_1054 : Cond.instanceMethod yX11_needPacket ∈ gU := gm (i := 1054) (by decide +kernel) (by decide +kernel)
theorem u_1055 : Cond.code yX11_needPacket cX11_needPacket 2 none ∈ gU := gm (i := 1055) (by decide +kernel) (by decide +kernel)
theorem v_1 : Cond.selects RX11 yX11_needPort yX11_needPort ∈ gU := gp (i := 1) (q := (yX11_needPort, 7)) (by decide +kernel) (by decide +kernel)
theorem v_10 : Cond.selects RX11 yX11_needCable yX11_needCable ∈ gU := gp (i := 10) (q := (yX11_needCable, 7)) (by decide +kernel) (by decide +kernel)
theorem v_12 : Cond.selects RX11 yX11_needBox yX11_needBox ∈ gU := gp (i := 12) (q := (yX11_needBox, 7)) (by decide +kernel) (by decide +kernel)
theorem v_27 : Cond.selects RX11 yX11_needPacket yX11_needPacket ∈ gU := gp (i := 27) (q := (yX11_needPacket, 7)) (by decide +kernel) (by decide +kernel)
set_option maxHeartbeats 4000000 in
set_option maxRecDepth 100000 in
theorem c_X11_cable (l : Launch) (dC : Nat → ClassId) (dI : Nat → Nat → Nat) (sz : Nat) (hfl : l.stackTraces = false) (h0 : Nat) (w : Nat) (sg : Nat) (ro : Nat) (tr : Nat) (gX : Nat → Nat) (kd : Nat) (gW : Nat → Nat) (a0 : Int32) (a1 : Int32) : vx_Met l yX11_cable (Cond.code yX11_cable cX11_cable 4 (some .int) :: gU) ({ frames := 7, cells := 1, slots := 6, locals := 103 }) (gPZ dC dI sz [(h0, .inr (11, oX w sg ro tr gX)), (w, .inr (10, oW kd gW 0 0))] [] (va_A [] sz) [.ref h0, .int a0, .int a1]) (va_Qi (fun (r : Int32) (_ : Unit) => False) (fun _ _ => True) (va_A [] sz)) (vx_X (fun _ : Unit => True) (fun E9 _ _ => E9 = "java/lang/IndexOutOfBoundsException") (va_A [] sz)) 1 6 (va_A [] sz) := by
  refine vx_ofW (cc := cX11_cable) (maxL := 4) (ret := (some .int)) (by decide) rfl ?_
  intro p e s m args below meth c s₁ B hml ht0 hv
  obtain ⟨rfl, hsz, hP, hK, hD0, hE, hZ⟩ := hv
  have hx := B.exec
  have hb := B.bytes
  have hr := B.returns
  have hts0 := atoms_spec (ws := Cond.code yX11_cable cX11_cable 4 (some .int) :: gU) B.pre
  have hts : ∀ w ∈ gU, w.before _ s = true := fun w h => hts0 w (List.mem_cons_of_mem _ h)
  have hown : s.vm.findClass RX11 = some m.cls := findClass_of_methodNamed B.named
  have hlocks := B.notSynchronized
  subst hsz
  have hD := hD0
  generalize hAe : va_A [] s.heap.size = A at hZ ⊢
  have hA : ∀ q : Nat, s.heap.size ≤ q → A q := fun q h => by rw [← hAe]; exact Or.inr h
  have hS : va_S A s.heap s.heap [] := va_S.rf
  have hP : va_P (dC, dI) vwCl [(h0, .inr (11, oX w sg ro tr gX)), (w, .inr (10, oW kd gW 0 0))] s.heap := hP
  have hl := lv_entry ([.ref h0, .int a0, .int a1]) (n := 4) (Nat.le_of_ble_eq_true rfl)
  rw [lg_entry_eq]
  generalize (lg_sl ([.ref h0, .int a0, .int a1]) ++ List.replicate (4 - (lg_sl ([.ref h0, .int a0, .int a1])).length) Slot.unset).toArray = ls at hl ⊢
  have hl : lv_has ls 4 [(0, .ref h0), (1, .int a0), (2, .int a1)] := hl
  refine lv_aload_n hx hb dX11_cable_0 rfl (lv_at hl 0 rfl) ?_
  refine lv_iload_n hx hb dX11_cable_1 rfl (lv_at hl 1 rfl) ?_
  have hPc := hP.sub (ws' := [(h0, .inr (11, oX w sg ro tr gX)), (w, .inr (10, oW kd gW 0 0))]) [0, 1] rfl
  have hDc := hD.sub (ws' := [(h0, .inr (11, oX w sg ro tr gX)), (w, .inr (10, oW kd gW 0 0))]) [0, 1] (by decide) rfl
  have hKc := hK.sub (tys' := []) [] rfl
  have hFc := roF hS hA
  refine vx_callv (vx_runV (As := [.int a0]) (rest := []) ⟨hx, hb, hml, hown, hts⟩ (c_X11_needPort l dC dI s.heap.size hfl h0 w sg ro tr gX kd gW a0) (cwV 1 hts (gV u_611 u_613 v_1 u_1 u_614) rfl rfl rfl (by decide +kernel) ⟨Nat.le_of_ble_eq_true rfl, Nat.le_of_ble_eq_true rfl⟩) ⟨gPZ_blind, va_recv hKc hPc (ci := 11) (q0 := 0) rfl rfl, gPZ_call hPc hKc hDc hE hZ hS hFc⟩ rfl rfl hl.1 rfl (lv_room (Nat.le_of_ble_eq_true rfl)) dX11_cable_2 ⟨(Nat.le_of_ble_eq_true rfl), (Nat.le_of_ble_eq_true rfl)⟩) hS (fun q _ h => hFc q h) hFc (fun q _ h => hFc q h) (fun E9 ce9 q15 u9 t9 H13 locs ht hvm hpx hBX hz1 hk1 hS hce hcv hcl => ?_) (fun u9 t9 H13 locs ht hvm hw hB hz1 hk1 hS => hw.elim)
  exact vx_out (fun x h => (ht0 x h).elim) hlocks hce hcv hcl (fun t ht _ => ⟨(), trivial, hBX, hS.F ht⟩) hS.2.2 (Nat.le_of_ble_eq_true rfl) (Nat.le_of_ble_eq_true rfl)
set_option maxHeartbeats 4000000 in
set_option maxRecDepth 100000 in
theorem c_X11_turn (l : Launch) (dC : Nat → ClassId) (dI : Nat → Nat → Nat) (sz : Nat) (hfl : l.stackTraces = false) (h0 : Nat) (w : Nat) (sg : Nat) (ro : Nat) (tr : Nat) (gX : Nat → Nat) (kd : Nat) (gW : Nat → Nat) (a0 : Int32) : vx_Met l yX11_turn (Cond.code yX11_turn cX11_turn 2 (some .boolean) :: gU) ({ frames := 7, cells := 1, slots := 6, locals := 103 }) (gPZ dC dI sz [(h0, .inr (11, oX w sg ro tr gX)), (w, .inr (10, oW kd gW 0 0))] [] (va_A [] sz) [.ref h0, .int a0]) (va_Qi (fun (r : Int32) (_ : Unit) => False) (fun _ _ => True) (va_A [] sz)) (vx_X (fun _ : Unit => True) (fun E9 _ _ => E9 = "java/lang/IndexOutOfBoundsException") (va_A [] sz)) 1 6 (va_A [] sz) := by
  refine vx_ofW (cc := cX11_turn) (maxL := 2) (ret := (some .boolean)) (by decide) rfl ?_
  intro p e s m args below meth c s₁ B hml ht0 hv
  obtain ⟨rfl, hsz, hP, hK, hD0, hE, hZ⟩ := hv
  have hx := B.exec
  have hb := B.bytes
  have hr := B.returns
  have hts0 := atoms_spec (ws := Cond.code yX11_turn cX11_turn 2 (some .boolean) :: gU) B.pre
  have hts : ∀ w ∈ gU, w.before _ s = true := fun w h => hts0 w (List.mem_cons_of_mem _ h)
  have hown : s.vm.findClass RX11 = some m.cls := findClass_of_methodNamed B.named
  have hlocks := B.notSynchronized
  subst hsz
  have hD := hD0
  generalize hAe : va_A [] s.heap.size = A at hZ ⊢
  have hA : ∀ q : Nat, s.heap.size ≤ q → A q := fun q h => by rw [← hAe]; exact Or.inr h
  have hS : va_S A s.heap s.heap [] := va_S.rf
  have hP : va_P (dC, dI) vwCl [(h0, .inr (11, oX w sg ro tr gX)), (w, .inr (10, oW kd gW 0 0))] s.heap := hP
  have hl := lv_entry ([.ref h0, .int a0]) (n := 2) (Nat.le_of_ble_eq_true rfl)
  rw [lg_entry_eq]
  generalize (lg_sl ([.ref h0, .int a0]) ++ List.replicate (2 - (lg_sl ([.ref h0, .int a0])).length) Slot.unset).toArray = ls at hl ⊢
  have hl : lv_has ls 2 [(0, .ref h0), (1, .int a0)] := hl
  refine lv_aload_n hx hb dX11_turn_0 rfl (lv_at hl 0 rfl) ?_
  refine lv_iload_n hx hb dX11_turn_1 rfl (lv_at hl 1 rfl) ?_
  have hPc := hP.sub (ws' := [(h0, .inr (11, oX w sg ro tr gX)), (w, .inr (10, oW kd gW 0 0))]) [0, 1] rfl
  have hDc := hD.sub (ws' := [(h0, .inr (11, oX w sg ro tr gX)), (w, .inr (10, oW kd gW 0 0))]) [0, 1] (by decide) rfl
  have hKc := hK.sub (tys' := []) [] rfl
  have hFc := roF hS hA
  refine vx_callv (vx_runV (As := [.int a0]) (rest := []) ⟨hx, hb, hml, hown, hts⟩ (c_X11_needCable l dC dI s.heap.size hfl h0 w sg ro tr gX kd gW a0) (cwV 1 hts (gV u_701 u_703 v_10 u_1 u_704) rfl rfl rfl (by decide +kernel) ⟨Nat.le_of_ble_eq_true rfl, Nat.le_of_ble_eq_true rfl⟩) ⟨gPZ_blind, va_recv hKc hPc (ci := 11) (q0 := 0) rfl rfl, gPZ_call hPc hKc hDc hE hZ hS hFc⟩ rfl rfl hl.1 rfl (lv_room (Nat.le_of_ble_eq_true rfl)) dX11_turn_2 ⟨(Nat.le_of_ble_eq_true rfl), (Nat.le_of_ble_eq_true rfl)⟩) hS (fun q _ h => hFc q h) hFc (fun q _ h => hFc q h) (fun E9 ce9 q18 u9 t9 H16 locs ht hvm hpx hBX hz1 hk1 hS hce hcv hcl => ?_) (fun u9 t9 H16 locs ht hvm hw hB hz1 hk1 hS => hw.elim)
  exact vx_out (fun x h => (ht0 x h).elim) hlocks hce hcv hcl (fun t ht _ => ⟨(), trivial, hBX, hS.F ht⟩) hS.2.2 (Nat.le_of_ble_eq_true rfl) (Nat.le_of_ble_eq_true rfl)
set_option maxHeartbeats 4000000 in
set_option maxRecDepth 100000 in
theorem c_X11_isBlocked (l : Launch) (dC : Nat → ClassId) (dI : Nat → Nat → Nat) (sz : Nat) (hfl : l.stackTraces = false) (h0 : Nat) (w : Nat) (sg : Nat) (ro : Nat) (tr : Nat) (gX : Nat → Nat) (kd : Nat) (gW : Nat → Nat) (a0 : Int32) : vx_Met l yX11_isBlocked (Cond.code yX11_isBlocked cX11_isBlocked 2 (some .boolean) :: gU) ({ frames := 7, cells := 1, slots := 6, locals := 103 }) (gPZ dC dI sz [(h0, .inr (11, oX w sg ro tr gX)), (w, .inr (10, oW kd gW 0 0))] [] (va_A [] sz) [.ref h0, .int a0]) (va_Qi (fun (r : Int32) (_ : Unit) => False) (fun _ _ => True) (va_A [] sz)) (vx_X (fun _ : Unit => True) (fun E9 _ _ => E9 = "java/lang/IndexOutOfBoundsException") (va_A [] sz)) 1 6 (va_A [] sz) := by
  refine vx_ofW (cc := cX11_isBlocked) (maxL := 2) (ret := (some .boolean)) (by decide) rfl ?_
  intro p e s m args below meth c s₁ B hml ht0 hv
  obtain ⟨rfl, hsz, hP, hK, hD0, hE, hZ⟩ := hv
  have hx := B.exec
  have hb := B.bytes
  have hr := B.returns
  have hts0 := atoms_spec (ws := Cond.code yX11_isBlocked cX11_isBlocked 2 (some .boolean) :: gU) B.pre
  have hts : ∀ w ∈ gU, w.before _ s = true := fun w h => hts0 w (List.mem_cons_of_mem _ h)
  have hown : s.vm.findClass RX11 = some m.cls := findClass_of_methodNamed B.named
  have hlocks := B.notSynchronized
  subst hsz
  have hD := hD0
  generalize hAe : va_A [] s.heap.size = A at hZ ⊢
  have hA : ∀ q : Nat, s.heap.size ≤ q → A q := fun q h => by rw [← hAe]; exact Or.inr h
  have hS : va_S A s.heap s.heap [] := va_S.rf
  have hP : va_P (dC, dI) vwCl [(h0, .inr (11, oX w sg ro tr gX)), (w, .inr (10, oW kd gW 0 0))] s.heap := hP
  have hl := lv_entry ([.ref h0, .int a0]) (n := 2) (Nat.le_of_ble_eq_true rfl)
  rw [lg_entry_eq]
  generalize (lg_sl ([.ref h0, .int a0]) ++ List.replicate (2 - (lg_sl ([.ref h0, .int a0])).length) Slot.unset).toArray = ls at hl ⊢
  have hl : lv_has ls 2 [(0, .ref h0), (1, .int a0)] := hl
  refine lv_aload_n hx hb dX11_isBlocked_0 rfl (lv_at hl 0 rfl) ?_
  refine lv_iload_n hx hb dX11_isBlocked_1 rfl (lv_at hl 1 rfl) ?_
  have hPc := hP.sub (ws' := [(h0, .inr (11, oX w sg ro tr gX)), (w, .inr (10, oW kd gW 0 0))]) [0, 1] rfl
  have hDc := hD.sub (ws' := [(h0, .inr (11, oX w sg ro tr gX)), (w, .inr (10, oW kd gW 0 0))]) [0, 1] (by decide) rfl
  have hKc := hK.sub (tys' := []) [] rfl
  have hFc := roF hS hA
  refine vx_callv (vx_runV (As := [.int a0]) (rest := []) ⟨hx, hb, hml, hown, hts⟩ (c_X11_needCable l dC dI s.heap.size hfl h0 w sg ro tr gX kd gW a0) (cwV 1 hts (gV u_701 u_703 v_10 u_1 u_704) rfl rfl rfl (by decide +kernel) ⟨Nat.le_of_ble_eq_true rfl, Nat.le_of_ble_eq_true rfl⟩) ⟨gPZ_blind, va_recv hKc hPc (ci := 11) (q0 := 0) rfl rfl, gPZ_call hPc hKc hDc hE hZ hS hFc⟩ rfl rfl hl.1 rfl (lv_room (Nat.le_of_ble_eq_true rfl)) dX11_isBlocked_2 ⟨(Nat.le_of_ble_eq_true rfl), (Nat.le_of_ble_eq_true rfl)⟩) hS (fun q _ h => hFc q h) hFc (fun q _ h => hFc q h) (fun E9 ce9 q21 u9 t9 H19 locs ht hvm hpx hBX hz1 hk1 hS hce hcv hcl => ?_) (fun u9 t9 H19 locs ht hvm hw hB hz1 hk1 hS => hw.elim)
  exact vx_out (fun x h => (ht0 x h).elim) hlocks hce hcv hcl (fun t ht _ => ⟨(), trivial, hBX, hS.F ht⟩) hS.2.2 (Nat.le_of_ble_eq_true rfl) (Nat.le_of_ble_eq_true rfl)
set_option maxHeartbeats 4000000 in
set_option maxRecDepth 100000 in
theorem c_X11_net (l : Launch) (dC : Nat → ClassId) (dI : Nat → Nat → Nat) (sz : Nat) (hfl : l.stackTraces = false) (h0 : Nat) (w : Nat) (sg : Nat) (ro : Nat) (tr : Nat) (gX : Nat → Nat) (kd : Nat) (gW : Nat → Nat) (a0 : Int32) (a1 : Int32) : vx_Met l yX11_net (Cond.code yX11_net cX11_net 4 (some .int) :: gU) ({ frames := 7, cells := 1, slots := 6, locals := 103 }) (gPZ dC dI sz [(h0, .inr (11, oX w sg ro tr gX)), (w, .inr (10, oW kd gW 0 0))] [] (va_A [] sz) [.ref h0, .int a0, .int a1]) (va_Qi (fun (r : Int32) (_ : Unit) => False) (fun _ _ => True) (va_A [] sz)) (vx_X (fun _ : Unit => True) (fun E9 _ _ => E9 = "java/lang/IndexOutOfBoundsException") (va_A [] sz)) 1 6 (va_A [] sz) := by
  refine vx_ofW (cc := cX11_net) (maxL := 4) (ret := (some .int)) (by decide) rfl ?_
  intro p e s m args below meth c s₁ B hml ht0 hv
  obtain ⟨rfl, hsz, hP, hK, hD0, hE, hZ⟩ := hv
  have hx := B.exec
  have hb := B.bytes
  have hr := B.returns
  have hts0 := atoms_spec (ws := Cond.code yX11_net cX11_net 4 (some .int) :: gU) B.pre
  have hts : ∀ w ∈ gU, w.before _ s = true := fun w h => hts0 w (List.mem_cons_of_mem _ h)
  have hown : s.vm.findClass RX11 = some m.cls := findClass_of_methodNamed B.named
  have hlocks := B.notSynchronized
  subst hsz
  have hD := hD0
  generalize hAe : va_A [] s.heap.size = A at hZ ⊢
  have hA : ∀ q : Nat, s.heap.size ≤ q → A q := fun q h => by rw [← hAe]; exact Or.inr h
  have hS : va_S A s.heap s.heap [] := va_S.rf
  have hP : va_P (dC, dI) vwCl [(h0, .inr (11, oX w sg ro tr gX)), (w, .inr (10, oW kd gW 0 0))] s.heap := hP
  have hl := lv_entry ([.ref h0, .int a0, .int a1]) (n := 4) (Nat.le_of_ble_eq_true rfl)
  rw [lg_entry_eq]
  generalize (lg_sl ([.ref h0, .int a0, .int a1]) ++ List.replicate (4 - (lg_sl ([.ref h0, .int a0, .int a1])).length) Slot.unset).toArray = ls at hl ⊢
  have hl : lv_has ls 4 [(0, .ref h0), (1, .int a0), (2, .int a1)] := hl
  refine lv_aload_n hx hb dX11_net_0 rfl (lv_at hl 0 rfl) ?_
  refine lv_iload_n hx hb dX11_net_1 rfl (lv_at hl 1 rfl) ?_
  have hPc := hP.sub (ws' := [(h0, .inr (11, oX w sg ro tr gX)), (w, .inr (10, oW kd gW 0 0))]) [0, 1] rfl
  have hDc := hD.sub (ws' := [(h0, .inr (11, oX w sg ro tr gX)), (w, .inr (10, oW kd gW 0 0))]) [0, 1] (by decide) rfl
  have hKc := hK.sub (tys' := []) [] rfl
  have hFc := roF hS hA
  refine vx_callv (vx_runV (As := [.int a0]) (rest := []) ⟨hx, hb, hml, hown, hts⟩ (c_X11_needPort l dC dI s.heap.size hfl h0 w sg ro tr gX kd gW a0) (cwV 1 hts (gV u_611 u_613 v_1 u_1 u_614) rfl rfl rfl (by decide +kernel) ⟨Nat.le_of_ble_eq_true rfl, Nat.le_of_ble_eq_true rfl⟩) ⟨gPZ_blind, va_recv hKc hPc (ci := 11) (q0 := 0) rfl rfl, gPZ_call hPc hKc hDc hE hZ hS hFc⟩ rfl rfl hl.1 rfl (lv_room (Nat.le_of_ble_eq_true rfl)) dX11_net_2 ⟨(Nat.le_of_ble_eq_true rfl), (Nat.le_of_ble_eq_true rfl)⟩) hS (fun q _ h => hFc q h) hFc (fun q _ h => hFc q h) (fun E9 ce9 q24 u9 t9 H22 locs ht hvm hpx hBX hz1 hk1 hS hce hcv hcl => ?_) (fun u9 t9 H22 locs ht hvm hw hB hz1 hk1 hS => hw.elim)
  exact vx_out (fun x h => (ht0 x h).elim) hlocks hce hcv hcl (fun t ht _ => ⟨(), trivial, hBX, hS.F ht⟩) hS.2.2 (Nat.le_of_ble_eq_true rfl) (Nat.le_of_ble_eq_true rfl)
set_option maxHeartbeats 4000000 in
set_option maxRecDepth 100000 in
theorem c_X11_sees (l : Launch) (dC : Nat → ClassId) (dI : Nat → Nat → Nat) (sz : Nat) (hfl : l.stackTraces = false) (h0 : Nat) (w : Nat) (sg : Nat) (ro : Nat) (tr : Nat) (gX : Nat → Nat) (kd : Nat) (gW : Nat → Nat) (a0 : Int32) (a1 : Int32) : vx_Met l yX11_sees (Cond.code yX11_sees cX11_sees 3 (some .boolean) :: gU) ({ frames := 7, cells := 1, slots := 6, locals := 103 }) (gPZ dC dI sz [(h0, .inr (11, oX w sg ro tr gX)), (w, .inr (10, oW kd gW 0 0))] [] (va_A [] sz) [.ref h0, .int a0, .int a1]) (va_Qi (fun (r : Int32) (_ : Unit) => False) (fun _ _ => True) (va_A [] sz)) (vx_X (fun _ : Unit => True) (fun E9 _ _ => E9 = "java/lang/IndexOutOfBoundsException") (va_A [] sz)) 1 6 (va_A [] sz) := by
  refine vx_ofW (cc := cX11_sees) (maxL := 3) (ret := (some .boolean)) (by decide) rfl ?_
  intro p e s m args below meth c s₁ B hml ht0 hv
  obtain ⟨rfl, hsz, hP, hK, hD0, hE, hZ⟩ := hv
  have hx := B.exec
  have hb := B.bytes
  have hr := B.returns
  have hts0 := atoms_spec (ws := Cond.code yX11_sees cX11_sees 3 (some .boolean) :: gU) B.pre
  have hts : ∀ w ∈ gU, w.before _ s = true := fun w h => hts0 w (List.mem_cons_of_mem _ h)
  have hown : s.vm.findClass RX11 = some m.cls := findClass_of_methodNamed B.named
  have hlocks := B.notSynchronized
  subst hsz
  have hD := hD0
  generalize hAe : va_A [] s.heap.size = A at hZ ⊢
  have hA : ∀ q : Nat, s.heap.size ≤ q → A q := fun q h => by rw [← hAe]; exact Or.inr h
  have hS : va_S A s.heap s.heap [] := va_S.rf
  have hP : va_P (dC, dI) vwCl [(h0, .inr (11, oX w sg ro tr gX)), (w, .inr (10, oW kd gW 0 0))] s.heap := hP
  have hl := lv_entry ([.ref h0, .int a0, .int a1]) (n := 3) (Nat.le_of_ble_eq_true rfl)
  rw [lg_entry_eq]
  generalize (lg_sl ([.ref h0, .int a0, .int a1]) ++ List.replicate (3 - (lg_sl ([.ref h0, .int a0, .int a1])).length) Slot.unset).toArray = ls at hl ⊢
  have hl : lv_has ls 3 [(0, .ref h0), (1, .int a0), (2, .int a1)] := hl
  refine lv_aload_n hx hb dX11_sees_0 rfl (lv_at hl 0 rfl) ?_
  refine lv_iload_n hx hb dX11_sees_1 rfl (lv_at hl 1 rfl) ?_
  have hPc := hP.sub (ws' := [(h0, .inr (11, oX w sg ro tr gX)), (w, .inr (10, oW kd gW 0 0))]) [0, 1] rfl
  have hDc := hD.sub (ws' := [(h0, .inr (11, oX w sg ro tr gX)), (w, .inr (10, oW kd gW 0 0))]) [0, 1] (by decide) rfl
  have hKc := hK.sub (tys' := []) [] rfl
  have hFc := roF hS hA
  refine vx_callv (vx_runV (As := [.int a0]) (rest := []) ⟨hx, hb, hml, hown, hts⟩ (c_X11_needPort l dC dI s.heap.size hfl h0 w sg ro tr gX kd gW a0) (cwV 1 hts (gV u_611 u_613 v_1 u_1 u_614) rfl rfl rfl (by decide +kernel) ⟨Nat.le_of_ble_eq_true rfl, Nat.le_of_ble_eq_true rfl⟩) ⟨gPZ_blind, va_recv hKc hPc (ci := 11) (q0 := 0) rfl rfl, gPZ_call hPc hKc hDc hE hZ hS hFc⟩ rfl rfl hl.1 rfl (lv_room (Nat.le_of_ble_eq_true rfl)) dX11_sees_2 ⟨(Nat.le_of_ble_eq_true rfl), (Nat.le_of_ble_eq_true rfl)⟩) hS (fun q _ h => hFc q h) hFc (fun q _ h => hFc q h) (fun E9 ce9 q27 u9 t9 H25 locs ht hvm hpx hBX hz1 hk1 hS hce hcv hcl => ?_) (fun u9 t9 H25 locs ht hvm hw hB hz1 hk1 hS => hw.elim)
  exact vx_out (fun x h => (ht0 x h).elim) hlocks hce hcv hcl (fun t ht _ => ⟨(), trivial, hBX, hS.F ht⟩) hS.2.2 (Nat.le_of_ble_eq_true rfl) (Nat.le_of_ble_eq_true rfl)
set_option maxHeartbeats 4000000 in
set_option maxRecDepth 100000 in
theorem c_X11_address (l : Launch) (dC : Nat → ClassId) (dI : Nat → Nat → Nat) (sz : Nat) (hfl : l.stackTraces = false) (h0 : Nat) (w : Nat) (sg : Nat) (ro : Nat) (tr : Nat) (gX : Nat → Nat) (kd : Nat) (gW : Nat → Nat) (a0 : Int32) (a1 : Int32) (a2 : Int32) : vx_Met l yX11_address (Cond.code yX11_address cX11_address 5 (some .int) :: gU) ({ frames := 7, cells := 1, slots := 6, locals := 103 }) (gPZ dC dI sz [(h0, .inr (11, oX w sg ro tr gX)), (w, .inr (10, oW kd gW 0 0))] [] (va_A [] sz) [.ref h0, .int a0, .int a1, .int a2]) (va_Qi (fun (r : Int32) (_ : Unit) => False) (fun _ _ => True) (va_A [] sz)) (vx_X (fun _ : Unit => True) (fun E9 _ _ => E9 = "java/lang/IndexOutOfBoundsException") (va_A [] sz)) 1 6 (va_A [] sz) := by
  refine vx_ofW (cc := cX11_address) (maxL := 5) (ret := (some .int)) (by decide) rfl ?_
  intro p e s m args below meth c s₁ B hml ht0 hv
  obtain ⟨rfl, hsz, hP, hK, hD0, hE, hZ⟩ := hv
  have hx := B.exec
  have hb := B.bytes
  have hr := B.returns
  have hts0 := atoms_spec (ws := Cond.code yX11_address cX11_address 5 (some .int) :: gU) B.pre
  have hts : ∀ w ∈ gU, w.before _ s = true := fun w h => hts0 w (List.mem_cons_of_mem _ h)
  have hown : s.vm.findClass RX11 = some m.cls := findClass_of_methodNamed B.named
  have hlocks := B.notSynchronized
  subst hsz
  have hD := hD0
  generalize hAe : va_A [] s.heap.size = A at hZ ⊢
  have hA : ∀ q : Nat, s.heap.size ≤ q → A q := fun q h => by rw [← hAe]; exact Or.inr h
  have hS : va_S A s.heap s.heap [] := va_S.rf
  have hP : va_P (dC, dI) vwCl [(h0, .inr (11, oX w sg ro tr gX)), (w, .inr (10, oW kd gW 0 0))] s.heap := hP
  have hl := lv_entry ([.ref h0, .int a0, .int a1, .int a2]) (n := 5) (Nat.le_of_ble_eq_true rfl)
  rw [lg_entry_eq]
  generalize (lg_sl ([.ref h0, .int a0, .int a1, .int a2]) ++ List.replicate (5 - (lg_sl ([.ref h0, .int a0, .int a1, .int a2])).length) Slot.unset).toArray = ls at hl ⊢
  have hl : lv_has ls 5 [(0, .ref h0), (1, .int a0), (2, .int a1), (3, .int a2)] := hl
  refine lv_aload_n hx hb dX11_address_0 rfl (lv_at hl 0 rfl) ?_
  refine lv_iload_n hx hb dX11_address_1 rfl (lv_at hl 1 rfl) ?_
  have hPc := hP.sub (ws' := [(h0, .inr (11, oX w sg ro tr gX)), (w, .inr (10, oW kd gW 0 0))]) [0, 1] rfl
  have hDc := hD.sub (ws' := [(h0, .inr (11, oX w sg ro tr gX)), (w, .inr (10, oW kd gW 0 0))]) [0, 1] (by decide) rfl
  have hKc := hK.sub (tys' := []) [] rfl
  have hFc := roF hS hA
  refine vx_callv (vx_runV (As := [.int a0]) (rest := []) ⟨hx, hb, hml, hown, hts⟩ (c_X11_needPort l dC dI s.heap.size hfl h0 w sg ro tr gX kd gW a0) (cwV 1 hts (gV u_611 u_613 v_1 u_1 u_614) rfl rfl rfl (by decide +kernel) ⟨Nat.le_of_ble_eq_true rfl, Nat.le_of_ble_eq_true rfl⟩) ⟨gPZ_blind, va_recv hKc hPc (ci := 11) (q0 := 0) rfl rfl, gPZ_call hPc hKc hDc hE hZ hS hFc⟩ rfl rfl hl.1 rfl (lv_room (Nat.le_of_ble_eq_true rfl)) dX11_address_2 ⟨(Nat.le_of_ble_eq_true rfl), (Nat.le_of_ble_eq_true rfl)⟩) hS (fun q _ h => hFc q h) hFc (fun q _ h => hFc q h) (fun E9 ce9 q30 u9 t9 H28 locs ht hvm hpx hBX hz1 hk1 hS hce hcv hcl => ?_) (fun u9 t9 H28 locs ht hvm hw hB hz1 hk1 hS => hw.elim)
  exact vx_out (fun x h => (ht0 x h).elim) hlocks hce hcv hcl (fun t ht _ => ⟨(), trivial, hBX, hS.F ht⟩) hS.2.2 (Nat.le_of_ble_eq_true rfl) (Nat.le_of_ble_eq_true rfl)
set_option maxHeartbeats 4000000 in
set_option maxRecDepth 100000 in
theorem c_X11_gateway (l : Launch) (dC : Nat → ClassId) (dI : Nat → Nat → Nat) (sz : Nat) (hfl : l.stackTraces = false) (h0 : Nat) (w : Nat) (sg : Nat) (ro : Nat) (tr : Nat) (gX : Nat → Nat) (kd : Nat) (gW : Nat → Nat) (a0 : Int32) (a1 : Int32) : vx_Met l yX11_gateway (Cond.code yX11_gateway cX11_gateway 4 (some .int) :: gU) ({ frames := 7, cells := 1, slots := 6, locals := 103 }) (gPZ dC dI sz [(h0, .inr (11, oX w sg ro tr gX)), (w, .inr (10, oW kd gW 0 0))] [] (va_A [] sz) [.ref h0, .int a0, .int a1]) (va_Qi (fun (r : Int32) (_ : Unit) => False) (fun _ _ => True) (va_A [] sz)) (vx_X (fun _ : Unit => True) (fun E9 _ _ => E9 = "java/lang/IndexOutOfBoundsException") (va_A [] sz)) 1 6 (va_A [] sz) := by
  refine vx_ofW (cc := cX11_gateway) (maxL := 4) (ret := (some .int)) (by decide) rfl ?_
  intro p e s m args below meth c s₁ B hml ht0 hv
  obtain ⟨rfl, hsz, hP, hK, hD0, hE, hZ⟩ := hv
  have hx := B.exec
  have hb := B.bytes
  have hr := B.returns
  have hts0 := atoms_spec (ws := Cond.code yX11_gateway cX11_gateway 4 (some .int) :: gU) B.pre
  have hts : ∀ w ∈ gU, w.before _ s = true := fun w h => hts0 w (List.mem_cons_of_mem _ h)
  have hown : s.vm.findClass RX11 = some m.cls := findClass_of_methodNamed B.named
  have hlocks := B.notSynchronized
  subst hsz
  have hD := hD0
  generalize hAe : va_A [] s.heap.size = A at hZ ⊢
  have hA : ∀ q : Nat, s.heap.size ≤ q → A q := fun q h => by rw [← hAe]; exact Or.inr h
  have hS : va_S A s.heap s.heap [] := va_S.rf
  have hP : va_P (dC, dI) vwCl [(h0, .inr (11, oX w sg ro tr gX)), (w, .inr (10, oW kd gW 0 0))] s.heap := hP
  have hl := lv_entry ([.ref h0, .int a0, .int a1]) (n := 4) (Nat.le_of_ble_eq_true rfl)
  rw [lg_entry_eq]
  generalize (lg_sl ([.ref h0, .int a0, .int a1]) ++ List.replicate (4 - (lg_sl ([.ref h0, .int a0, .int a1])).length) Slot.unset).toArray = ls at hl ⊢
  have hl : lv_has ls 4 [(0, .ref h0), (1, .int a0), (2, .int a1)] := hl
  refine lv_aload_n hx hb dX11_gateway_0 rfl (lv_at hl 0 rfl) ?_
  refine lv_iload_n hx hb dX11_gateway_1 rfl (lv_at hl 1 rfl) ?_
  have hPc := hP.sub (ws' := [(h0, .inr (11, oX w sg ro tr gX)), (w, .inr (10, oW kd gW 0 0))]) [0, 1] rfl
  have hDc := hD.sub (ws' := [(h0, .inr (11, oX w sg ro tr gX)), (w, .inr (10, oW kd gW 0 0))]) [0, 1] (by decide) rfl
  have hKc := hK.sub (tys' := []) [] rfl
  have hFc := roF hS hA
  refine vx_callv (vx_runV (As := [.int a0]) (rest := []) ⟨hx, hb, hml, hown, hts⟩ (c_X11_needBox l dC dI s.heap.size hfl h0 w sg ro tr gX kd gW a0) (cwV 1 hts (gV u_782 u_784 v_12 u_1 u_785) rfl rfl rfl (by decide +kernel) ⟨Nat.le_of_ble_eq_true rfl, Nat.le_of_ble_eq_true rfl⟩) ⟨gPZ_blind, va_recv hKc hPc (ci := 11) (q0 := 0) rfl rfl, gPZ_call hPc hKc hDc hE hZ hS hFc⟩ rfl rfl hl.1 rfl (lv_room (Nat.le_of_ble_eq_true rfl)) dX11_gateway_2 ⟨(Nat.le_of_ble_eq_true rfl), (Nat.le_of_ble_eq_true rfl)⟩) hS (fun q _ h => hFc q h) hFc (fun q _ h => hFc q h) (fun E9 ce9 q33 u9 t9 H31 locs ht hvm hpx hBX hz1 hk1 hS hce hcv hcl => ?_) (fun u9 t9 H31 locs ht hvm hw hB hz1 hk1 hS => hw.elim)
  exact vx_out (fun x h => (ht0 x h).elim) hlocks hce hcv hcl (fun t ht _ => ⟨(), trivial, hBX, hS.F ht⟩) hS.2.2 (Nat.le_of_ble_eq_true rfl) (Nat.le_of_ble_eq_true rfl)
set_option maxHeartbeats 4000000 in
set_option maxRecDepth 100000 in
theorem c_X11_route (l : Launch) (dC : Nat → ClassId) (dI : Nat → Nat → Nat) (sz : Nat) (hfl : l.stackTraces = false) (h0 : Nat) (w : Nat) (sg : Nat) (ro : Nat) (tr : Nat) (gX : Nat → Nat) (kd : Nat) (gW : Nat → Nat) (a0 : Int32) (a1 : Int32) (a2 : Int32) (a3 : Int32) : vx_Met l yX11_route (Cond.code yX11_route cX11_route 6 (some .int) :: gU) ({ frames := 7, cells := 1, slots := 6, locals := 103 }) (gPZ dC dI sz [(h0, .inr (11, oX w sg ro tr gX)), (w, .inr (10, oW kd gW 0 0))] [] (va_A [] sz) [.ref h0, .int a0, .int a1, .int a2, .int a3]) (va_Qi (fun (r : Int32) (_ : Unit) => False) (fun _ _ => True) (va_A [] sz)) (vx_X (fun _ : Unit => True) (fun E9 _ _ => E9 = "java/lang/IndexOutOfBoundsException") (va_A [] sz)) 1 6 (va_A [] sz) := by
  refine vx_ofW (cc := cX11_route) (maxL := 6) (ret := (some .int)) (by decide) rfl ?_
  intro p e s m args below meth c s₁ B hml ht0 hv
  obtain ⟨rfl, hsz, hP, hK, hD0, hE, hZ⟩ := hv
  have hx := B.exec
  have hb := B.bytes
  have hr := B.returns
  have hts0 := atoms_spec (ws := Cond.code yX11_route cX11_route 6 (some .int) :: gU) B.pre
  have hts : ∀ w ∈ gU, w.before _ s = true := fun w h => hts0 w (List.mem_cons_of_mem _ h)
  have hown : s.vm.findClass RX11 = some m.cls := findClass_of_methodNamed B.named
  have hlocks := B.notSynchronized
  subst hsz
  have hD := hD0
  generalize hAe : va_A [] s.heap.size = A at hZ ⊢
  have hA : ∀ q : Nat, s.heap.size ≤ q → A q := fun q h => by rw [← hAe]; exact Or.inr h
  have hS : va_S A s.heap s.heap [] := va_S.rf
  have hP : va_P (dC, dI) vwCl [(h0, .inr (11, oX w sg ro tr gX)), (w, .inr (10, oW kd gW 0 0))] s.heap := hP
  have hl := lv_entry ([.ref h0, .int a0, .int a1, .int a2, .int a3]) (n := 6) (Nat.le_of_ble_eq_true rfl)
  rw [lg_entry_eq]
  generalize (lg_sl ([.ref h0, .int a0, .int a1, .int a2, .int a3]) ++ List.replicate (6 - (lg_sl ([.ref h0, .int a0, .int a1, .int a2, .int a3])).length) Slot.unset).toArray = ls at hl ⊢
  have hl : lv_has ls 6 [(0, .ref h0), (1, .int a0), (2, .int a1), (3, .int a2), (4, .int a3)] := hl
  refine lv_aload_n hx hb dX11_route_0 rfl (lv_at hl 0 rfl) ?_
  refine lv_iload_n hx hb dX11_route_1 rfl (lv_at hl 1 rfl) ?_
  have hPc := hP.sub (ws' := [(h0, .inr (11, oX w sg ro tr gX)), (w, .inr (10, oW kd gW 0 0))]) [0, 1] rfl
  have hDc := hD.sub (ws' := [(h0, .inr (11, oX w sg ro tr gX)), (w, .inr (10, oW kd gW 0 0))]) [0, 1] (by decide) rfl
  have hKc := hK.sub (tys' := []) [] rfl
  have hFc := roF hS hA
  refine vx_callv (vx_runV (As := [.int a0]) (rest := []) ⟨hx, hb, hml, hown, hts⟩ (c_X11_needBox l dC dI s.heap.size hfl h0 w sg ro tr gX kd gW a0) (cwV 1 hts (gV u_782 u_784 v_12 u_1 u_785) rfl rfl rfl (by decide +kernel) ⟨Nat.le_of_ble_eq_true rfl, Nat.le_of_ble_eq_true rfl⟩) ⟨gPZ_blind, va_recv hKc hPc (ci := 11) (q0 := 0) rfl rfl, gPZ_call hPc hKc hDc hE hZ hS hFc⟩ rfl rfl hl.1 rfl (lv_room (Nat.le_of_ble_eq_true rfl)) dX11_route_2 ⟨(Nat.le_of_ble_eq_true rfl), (Nat.le_of_ble_eq_true rfl)⟩) hS (fun q _ h => hFc q h) hFc (fun q _ h => hFc q h) (fun E9 ce9 q36 u9 t9 H34 locs ht hvm hpx hBX hz1 hk1 hS hce hcv hcl => ?_) (fun u9 t9 H34 locs ht hvm hw hB hz1 hk1 hS => hw.elim)
  exact vx_out (fun x h => (ht0 x h).elim) hlocks hce hcv hcl (fun t ht _ => ⟨(), trivial, hBX, hS.F ht⟩) hS.2.2 (Nat.le_of_ble_eq_true rfl) (Nat.le_of_ble_eq_true rfl)
set_option maxHeartbeats 4000000 in
set_option maxRecDepth 100000 in
theorem c_X11_rule (l : Launch) (dC : Nat → ClassId) (dI : Nat → Nat → Nat) (sz : Nat) (hfl : l.stackTraces = false) (h0 : Nat) (w : Nat) (sg : Nat) (ro : Nat) (tr : Nat) (gX : Nat → Nat) (kd : Nat) (gW : Nat → Nat) (a0 : Int32) (a1 : Int32) (a2 : Int32) (a3 : Int32) (a4 : Int32) (a5 : Int32) (a6 : Int32) : vx_Met l yX11_rule (Cond.code yX11_rule cX11_rule 9 (some .int) :: gU) ({ frames := 7, cells := 1, slots := 6, locals := 103 }) (gPZ dC dI sz [(h0, .inr (11, oX w sg ro tr gX)), (w, .inr (10, oW kd gW 0 0))] [] (va_A [] sz) [.ref h0, .int a0, .int a1, .int a2, .int a3, .int a4, .int a5, .int a6]) (va_Qi (fun (r : Int32) (_ : Unit) => False) (fun _ _ => True) (va_A [] sz)) (vx_X (fun _ : Unit => True) (fun E9 _ _ => E9 = "java/lang/IndexOutOfBoundsException") (va_A [] sz)) 1 6 (va_A [] sz) := by
  refine vx_ofW (cc := cX11_rule) (maxL := 9) (ret := (some .int)) (by decide) rfl ?_
  intro p e s m args below meth c s₁ B hml ht0 hv
  obtain ⟨rfl, hsz, hP, hK, hD0, hE, hZ⟩ := hv
  have hx := B.exec
  have hb := B.bytes
  have hr := B.returns
  have hts0 := atoms_spec (ws := Cond.code yX11_rule cX11_rule 9 (some .int) :: gU) B.pre
  have hts : ∀ w ∈ gU, w.before _ s = true := fun w h => hts0 w (List.mem_cons_of_mem _ h)
  have hown : s.vm.findClass RX11 = some m.cls := findClass_of_methodNamed B.named
  have hlocks := B.notSynchronized
  subst hsz
  have hD := hD0
  generalize hAe : va_A [] s.heap.size = A at hZ ⊢
  have hA : ∀ q : Nat, s.heap.size ≤ q → A q := fun q h => by rw [← hAe]; exact Or.inr h
  have hS : va_S A s.heap s.heap [] := va_S.rf
  have hP : va_P (dC, dI) vwCl [(h0, .inr (11, oX w sg ro tr gX)), (w, .inr (10, oW kd gW 0 0))] s.heap := hP
  have hl := lv_entry ([.ref h0, .int a0, .int a1, .int a2, .int a3, .int a4, .int a5, .int a6]) (n := 9) (Nat.le_of_ble_eq_true rfl)
  rw [lg_entry_eq]
  generalize (lg_sl ([.ref h0, .int a0, .int a1, .int a2, .int a3, .int a4, .int a5, .int a6]) ++ List.replicate (9 - (lg_sl ([.ref h0, .int a0, .int a1, .int a2, .int a3, .int a4, .int a5, .int a6])).length) Slot.unset).toArray = ls at hl ⊢
  have hl : lv_has ls 9 [(0, .ref h0), (1, .int a0), (2, .int a1), (3, .int a2), (4, .int a3), (5, .int a4), (6, .int a5), (7, .int a6)] := hl
  refine lv_aload_n hx hb dX11_rule_0 rfl (lv_at hl 0 rfl) ?_
  refine lv_iload_n hx hb dX11_rule_1 rfl (lv_at hl 1 rfl) ?_
  have hPc := hP.sub (ws' := [(h0, .inr (11, oX w sg ro tr gX)), (w, .inr (10, oW kd gW 0 0))]) [0, 1] rfl
  have hDc := hD.sub (ws' := [(h0, .inr (11, oX w sg ro tr gX)), (w, .inr (10, oW kd gW 0 0))]) [0, 1] (by decide) rfl
  have hKc := hK.sub (tys' := []) [] rfl
  have hFc := roF hS hA
  refine vx_callv (vx_runV (As := [.int a0]) (rest := []) ⟨hx, hb, hml, hown, hts⟩ (c_X11_needBox l dC dI s.heap.size hfl h0 w sg ro tr gX kd gW a0) (cwV 1 hts (gV u_782 u_784 v_12 u_1 u_785) rfl rfl rfl (by decide +kernel) ⟨Nat.le_of_ble_eq_true rfl, Nat.le_of_ble_eq_true rfl⟩) ⟨gPZ_blind, va_recv hKc hPc (ci := 11) (q0 := 0) rfl rfl, gPZ_call hPc hKc hDc hE hZ hS hFc⟩ rfl rfl hl.1 rfl (lv_room (Nat.le_of_ble_eq_true rfl)) dX11_rule_2 ⟨(Nat.le_of_ble_eq_true rfl), (Nat.le_of_ble_eq_true rfl)⟩) hS (fun q _ h => hFc q h) hFc (fun q _ h => hFc q h) (fun E9 ce9 q39 u9 t9 H37 locs ht hvm hpx hBX hz1 hk1 hS hce hcv hcl => ?_) (fun u9 t9 H37 locs ht hvm hw hB hz1 hk1 hS => hw.elim)
  exact vx_out (fun x h => (ht0 x h).elim) hlocks hce hcv hcl (fun t ht _ => ⟨(), trivial, hBX, hS.F ht⟩) hS.2.2 (Nat.le_of_ble_eq_true rfl) (Nat.le_of_ble_eq_true rfl)
set_option maxHeartbeats 4000000 in
set_option maxRecDepth 100000 in
theorem c_X11_watch (l : Launch) (dC : Nat → ClassId) (dI : Nat → Nat → Nat) (sz : Nat) (hfl : l.stackTraces = false) (h0 : Nat) (w : Nat) (sg : Nat) (ro : Nat) (tr : Nat) (gX : Nat → Nat) (kd : Nat) (gW : Nat → Nat) (a0 : Int32) (a1 : Int32) : vx_Met l yX11_watch (Cond.code yX11_watch cX11_watch 3 (some .boolean) :: gU) ({ frames := 7, cells := 1, slots := 6, locals := 103 }) (gPZ dC dI sz [(h0, .inr (11, oX w sg ro tr gX)), (w, .inr (10, oW kd gW 0 0))] [] (va_A [] sz) [.ref h0, .int a0, .int a1]) (va_Qi (fun (r : Int32) (_ : Unit) => False) (fun _ _ => True) (va_A [] sz)) (vx_X (fun _ : Unit => True) (fun E9 _ _ => E9 = "java/lang/IndexOutOfBoundsException") (va_A [] sz)) 1 6 (va_A [] sz) := by
  refine vx_ofW (cc := cX11_watch) (maxL := 3) (ret := (some .boolean)) (by decide) rfl ?_
  intro p e s m args below meth c s₁ B hml ht0 hv
  obtain ⟨rfl, hsz, hP, hK, hD0, hE, hZ⟩ := hv
  have hx := B.exec
  have hb := B.bytes
  have hr := B.returns
  have hts0 := atoms_spec (ws := Cond.code yX11_watch cX11_watch 3 (some .boolean) :: gU) B.pre
  have hts : ∀ w ∈ gU, w.before _ s = true := fun w h => hts0 w (List.mem_cons_of_mem _ h)
  have hown : s.vm.findClass RX11 = some m.cls := findClass_of_methodNamed B.named
  have hlocks := B.notSynchronized
  subst hsz
  have hD := hD0
  generalize hAe : va_A [] s.heap.size = A at hZ ⊢
  have hA : ∀ q : Nat, s.heap.size ≤ q → A q := fun q h => by rw [← hAe]; exact Or.inr h
  have hS : va_S A s.heap s.heap [] := va_S.rf
  have hP : va_P (dC, dI) vwCl [(h0, .inr (11, oX w sg ro tr gX)), (w, .inr (10, oW kd gW 0 0))] s.heap := hP
  have hl := lv_entry ([.ref h0, .int a0, .int a1]) (n := 3) (Nat.le_of_ble_eq_true rfl)
  rw [lg_entry_eq]
  generalize (lg_sl ([.ref h0, .int a0, .int a1]) ++ List.replicate (3 - (lg_sl ([.ref h0, .int a0, .int a1])).length) Slot.unset).toArray = ls at hl ⊢
  have hl : lv_has ls 3 [(0, .ref h0), (1, .int a0), (2, .int a1)] := hl
  refine lv_aload_n hx hb dX11_watch_0 rfl (lv_at hl 0 rfl) ?_
  refine lv_iload_n hx hb dX11_watch_1 rfl (lv_at hl 1 rfl) ?_
  have hPc := hP.sub (ws' := [(h0, .inr (11, oX w sg ro tr gX)), (w, .inr (10, oW kd gW 0 0))]) [0, 1] rfl
  have hDc := hD.sub (ws' := [(h0, .inr (11, oX w sg ro tr gX)), (w, .inr (10, oW kd gW 0 0))]) [0, 1] (by decide) rfl
  have hKc := hK.sub (tys' := []) [] rfl
  have hFc := roF hS hA
  refine vx_callv (vx_runV (As := [.int a0]) (rest := []) ⟨hx, hb, hml, hown, hts⟩ (c_X11_needBox l dC dI s.heap.size hfl h0 w sg ro tr gX kd gW a0) (cwV 1 hts (gV u_782 u_784 v_12 u_1 u_785) rfl rfl rfl (by decide +kernel) ⟨Nat.le_of_ble_eq_true rfl, Nat.le_of_ble_eq_true rfl⟩) ⟨gPZ_blind, va_recv hKc hPc (ci := 11) (q0 := 0) rfl rfl, gPZ_call hPc hKc hDc hE hZ hS hFc⟩ rfl rfl hl.1 rfl (lv_room (Nat.le_of_ble_eq_true rfl)) dX11_watch_2 ⟨(Nat.le_of_ble_eq_true rfl), (Nat.le_of_ble_eq_true rfl)⟩) hS (fun q _ h => hFc q h) hFc (fun q _ h => hFc q h) (fun E9 ce9 q42 u9 t9 H40 locs ht hvm hpx hBX hz1 hk1 hS hce hcv hcl => ?_) (fun u9 t9 H40 locs ht hvm hw hB hz1 hk1 hS => hw.elim)
  exact vx_out (fun x h => (ht0 x h).elim) hlocks hce hcv hcl (fun t ht _ => ⟨(), trivial, hBX, hS.F ht⟩) hS.2.2 (Nat.le_of_ble_eq_true rfl) (Nat.le_of_ble_eq_true rfl)
set_option maxHeartbeats 4000000 in
set_option maxRecDepth 100000 in
theorem c_X11_pool (l : Launch) (dC : Nat → ClassId) (dI : Nat → Nat → Nat) (sz : Nat) (hfl : l.stackTraces = false) (h0 : Nat) (w : Nat) (sg : Nat) (ro : Nat) (tr : Nat) (gX : Nat → Nat) (kd : Nat) (gW : Nat → Nat) (a0 : Int32) (a1 : Int32) (a2 : Int32) : vx_Met l yX11_pool (Cond.code yX11_pool cX11_pool 4 (some .int) :: gU) ({ frames := 7, cells := 1, slots := 6, locals := 103 }) (gPZ dC dI sz [(h0, .inr (11, oX w sg ro tr gX)), (w, .inr (10, oW kd gW 0 0))] [] (va_A [] sz) [.ref h0, .int a0, .int a1, .int a2]) (va_Qi (fun (r : Int32) (_ : Unit) => False) (fun _ _ => True) (va_A [] sz)) (vx_X (fun _ : Unit => True) (fun E9 _ _ => E9 = "java/lang/IndexOutOfBoundsException") (va_A [] sz)) 1 6 (va_A [] sz) := by
  refine vx_ofW (cc := cX11_pool) (maxL := 4) (ret := (some .int)) (by decide) rfl ?_
  intro p e s m args below meth c s₁ B hml ht0 hv
  obtain ⟨rfl, hsz, hP, hK, hD0, hE, hZ⟩ := hv
  have hx := B.exec
  have hb := B.bytes
  have hr := B.returns
  have hts0 := atoms_spec (ws := Cond.code yX11_pool cX11_pool 4 (some .int) :: gU) B.pre
  have hts : ∀ w ∈ gU, w.before _ s = true := fun w h => hts0 w (List.mem_cons_of_mem _ h)
  have hown : s.vm.findClass RX11 = some m.cls := findClass_of_methodNamed B.named
  have hlocks := B.notSynchronized
  subst hsz
  have hD := hD0
  generalize hAe : va_A [] s.heap.size = A at hZ ⊢
  have hA : ∀ q : Nat, s.heap.size ≤ q → A q := fun q h => by rw [← hAe]; exact Or.inr h
  have hS : va_S A s.heap s.heap [] := va_S.rf
  have hP : va_P (dC, dI) vwCl [(h0, .inr (11, oX w sg ro tr gX)), (w, .inr (10, oW kd gW 0 0))] s.heap := hP
  have hl := lv_entry ([.ref h0, .int a0, .int a1, .int a2]) (n := 4) (Nat.le_of_ble_eq_true rfl)
  rw [lg_entry_eq]
  generalize (lg_sl ([.ref h0, .int a0, .int a1, .int a2]) ++ List.replicate (4 - (lg_sl ([.ref h0, .int a0, .int a1, .int a2])).length) Slot.unset).toArray = ls at hl ⊢
  have hl : lv_has ls 4 [(0, .ref h0), (1, .int a0), (2, .int a1), (3, .int a2)] := hl
  refine lv_aload_n hx hb dX11_pool_0 rfl (lv_at hl 0 rfl) ?_
  refine lv_iload_n hx hb dX11_pool_1 rfl (lv_at hl 1 rfl) ?_
  have hPc := hP.sub (ws' := [(h0, .inr (11, oX w sg ro tr gX)), (w, .inr (10, oW kd gW 0 0))]) [0, 1] rfl
  have hDc := hD.sub (ws' := [(h0, .inr (11, oX w sg ro tr gX)), (w, .inr (10, oW kd gW 0 0))]) [0, 1] (by decide) rfl
  have hKc := hK.sub (tys' := []) [] rfl
  have hFc := roF hS hA
  refine vx_callv (vx_runV (As := [.int a0]) (rest := []) ⟨hx, hb, hml, hown, hts⟩ (c_X11_needPort l dC dI s.heap.size hfl h0 w sg ro tr gX kd gW a0) (cwV 1 hts (gV u_611 u_613 v_1 u_1 u_614) rfl rfl rfl (by decide +kernel) ⟨Nat.le_of_ble_eq_true rfl, Nat.le_of_ble_eq_true rfl⟩) ⟨gPZ_blind, va_recv hKc hPc (ci := 11) (q0 := 0) rfl rfl, gPZ_call hPc hKc hDc hE hZ hS hFc⟩ rfl rfl hl.1 rfl (lv_room (Nat.le_of_ble_eq_true rfl)) dX11_pool_2 ⟨(Nat.le_of_ble_eq_true rfl), (Nat.le_of_ble_eq_true rfl)⟩) hS (fun q _ h => hFc q h) hFc (fun q _ h => hFc q h) (fun E9 ce9 q45 u9 t9 H43 locs ht hvm hpx hBX hz1 hk1 hS hce hcv hcl => ?_) (fun u9 t9 H43 locs ht hvm hw hB hz1 hk1 hS => hw.elim)
  exact vx_out (fun x h => (ht0 x h).elim) hlocks hce hcv hcl (fun t ht _ => ⟨(), trivial, hBX, hS.F ht⟩) hS.2.2 (Nat.le_of_ble_eq_true rfl) (Nat.le_of_ble_eq_true rfl)
set_option maxHeartbeats 4000000 in
set_option maxRecDepth 100000 in
theorem c_X11_send (l : Launch) (dC : Nat → ClassId) (dI : Nat → Nat → Nat) (sz : Nat) (hfl : l.stackTraces = false) (h0 : Nat) (w : Nat) (sg : Nat) (ro : Nat) (tr : Nat) (gX : Nat → Nat) (kd : Nat) (gW : Nat → Nat) (a0 : Int32) (a1 : Int32) (a2 : Int32) : vx_Met l yX11_send (Cond.code yX11_send cX11_send 5 (some .int) :: gU) ({ frames := 7, cells := 1, slots := 6, locals := 103 }) (gPZ dC dI sz [(h0, .inr (11, oX w sg ro tr gX)), (w, .inr (10, oW kd gW 0 0))] [] (va_A [] sz) [.ref h0, .int a0, .int a1, .int a2]) (va_Qi (fun (r : Int32) (_ : Unit) => False) (fun _ _ => True) (va_A [] sz)) (vx_X (fun _ : Unit => True) (fun E9 _ _ => E9 = "java/lang/IndexOutOfBoundsException") (va_A [] sz)) 1 6 (va_A [] sz) := by
  refine vx_ofW (cc := cX11_send) (maxL := 5) (ret := (some .int)) (by decide) rfl ?_
  intro p e s m args below meth c s₁ B hml ht0 hv
  obtain ⟨rfl, hsz, hP, hK, hD0, hE, hZ⟩ := hv
  have hx := B.exec
  have hb := B.bytes
  have hr := B.returns
  have hts0 := atoms_spec (ws := Cond.code yX11_send cX11_send 5 (some .int) :: gU) B.pre
  have hts : ∀ w ∈ gU, w.before _ s = true := fun w h => hts0 w (List.mem_cons_of_mem _ h)
  have hown : s.vm.findClass RX11 = some m.cls := findClass_of_methodNamed B.named
  have hlocks := B.notSynchronized
  subst hsz
  have hD := hD0
  generalize hAe : va_A [] s.heap.size = A at hZ ⊢
  have hA : ∀ q : Nat, s.heap.size ≤ q → A q := fun q h => by rw [← hAe]; exact Or.inr h
  have hS : va_S A s.heap s.heap [] := va_S.rf
  have hP : va_P (dC, dI) vwCl [(h0, .inr (11, oX w sg ro tr gX)), (w, .inr (10, oW kd gW 0 0))] s.heap := hP
  have hl := lv_entry ([.ref h0, .int a0, .int a1, .int a2]) (n := 5) (Nat.le_of_ble_eq_true rfl)
  rw [lg_entry_eq]
  generalize (lg_sl ([.ref h0, .int a0, .int a1, .int a2]) ++ List.replicate (5 - (lg_sl ([.ref h0, .int a0, .int a1, .int a2])).length) Slot.unset).toArray = ls at hl ⊢
  have hl : lv_has ls 5 [(0, .ref h0), (1, .int a0), (2, .int a1), (3, .int a2)] := hl
  refine lv_aload_n hx hb dX11_send_0 rfl (lv_at hl 0 rfl) ?_
  refine lv_iload_n hx hb dX11_send_1 rfl (lv_at hl 1 rfl) ?_
  have hPc := hP.sub (ws' := [(h0, .inr (11, oX w sg ro tr gX)), (w, .inr (10, oW kd gW 0 0))]) [0, 1] rfl
  have hDc := hD.sub (ws' := [(h0, .inr (11, oX w sg ro tr gX)), (w, .inr (10, oW kd gW 0 0))]) [0, 1] (by decide) rfl
  have hKc := hK.sub (tys' := []) [] rfl
  have hFc := roF hS hA
  refine vx_callv (vx_runV (As := [.int a0]) (rest := []) ⟨hx, hb, hml, hown, hts⟩ (c_X11_needBox l dC dI s.heap.size hfl h0 w sg ro tr gX kd gW a0) (cwV 1 hts (gV u_782 u_784 v_12 u_1 u_785) rfl rfl rfl (by decide +kernel) ⟨Nat.le_of_ble_eq_true rfl, Nat.le_of_ble_eq_true rfl⟩) ⟨gPZ_blind, va_recv hKc hPc (ci := 11) (q0 := 0) rfl rfl, gPZ_call hPc hKc hDc hE hZ hS hFc⟩ rfl rfl hl.1 rfl (lv_room (Nat.le_of_ble_eq_true rfl)) dX11_send_2 ⟨(Nat.le_of_ble_eq_true rfl), (Nat.le_of_ble_eq_true rfl)⟩) hS (fun q _ h => hFc q h) hFc (fun q _ h => hFc q h) (fun E9 ce9 q48 u9 t9 H46 locs ht hvm hpx hBX hz1 hk1 hS hce hcv hcl => ?_) (fun u9 t9 H46 locs ht hvm hw hB hz1 hk1 hS => hw.elim)
  exact vx_out (fun x h => (ht0 x h).elim) hlocks hce hcv hcl (fun t ht _ => ⟨(), trivial, hBX, hS.F ht⟩) hS.2.2 (Nat.le_of_ble_eq_true rfl) (Nat.le_of_ble_eq_true rfl)
set_option maxHeartbeats 4000000 in
set_option maxRecDepth 100000 in
theorem c_X11_fate (l : Launch) (dC : Nat → ClassId) (dI : Nat → Nat → Nat) (sz : Nat) (hfl : l.stackTraces = false) (h0 : Nat) (w : Nat) (sg : Nat) (ro : Nat) (tr : Nat) (gX : Nat → Nat) (gT : Nat → Nat) (a0 : Int32) : vx_Met l yX11_fate (Cond.code yX11_fate cX11_fate 2 (some .int) :: gU) ({ frames := 7, cells := 1, slots := 6, locals := 103 }) (gPZ dC dI sz [(h0, .inr (11, oX w sg ro tr gX)), (tr, .inr (9, oT w sg ro gT 0 0 0 0))] [] (va_A [] sz) [.ref h0, .int a0]) (va_Qi (fun (r : Int32) (_ : Unit) => False) (fun _ _ => True) (va_A [] sz)) (vx_X (fun _ : Unit => True) (fun E9 _ _ => E9 = "java/lang/IndexOutOfBoundsException") (va_A [] sz)) 1 6 (va_A [] sz) := by
  refine vx_ofW (cc := cX11_fate) (maxL := 2) (ret := (some .int)) (by decide) rfl ?_
  intro p e s m args below meth c s₁ B hml ht0 hv
  obtain ⟨rfl, hsz, hP, hK, hD0, hE, hZ⟩ := hv
  have hx := B.exec
  have hb := B.bytes
  have hr := B.returns
  have hts0 := atoms_spec (ws := Cond.code yX11_fate cX11_fate 2 (some .int) :: gU) B.pre
  have hts : ∀ w ∈ gU, w.before _ s = true := fun w h => hts0 w (List.mem_cons_of_mem _ h)
  have hown : s.vm.findClass RX11 = some m.cls := findClass_of_methodNamed B.named
  have hlocks := B.notSynchronized
  subst hsz
  have hD := hD0
  generalize hAe : va_A [] s.heap.size = A at hZ ⊢
  have hA : ∀ q : Nat, s.heap.size ≤ q → A q := fun q h => by rw [← hAe]; exact Or.inr h
  have hS : va_S A s.heap s.heap [] := va_S.rf
  have hP : va_P (dC, dI) vwCl [(h0, .inr (11, oX w sg ro tr gX)), (tr, .inr (9, oT w sg ro gT 0 0 0 0))] s.heap := hP
  have hl := lv_entry ([.ref h0, .int a0]) (n := 2) (Nat.le_of_ble_eq_true rfl)
  rw [lg_entry_eq]
  generalize (lg_sl ([.ref h0, .int a0]) ++ List.replicate (2 - (lg_sl ([.ref h0, .int a0])).length) Slot.unset).toArray = ls at hl ⊢
  have hl : lv_has ls 2 [(0, .ref h0), (1, .int a0)] := hl
  refine lv_aload_n hx hb dX11_fate_0 rfl (lv_at hl 0 rfl) ?_
  refine lv_iload_n hx hb dX11_fate_1 rfl (lv_at hl 1 rfl) ?_
  have hPc := hP.sub (ws' := [(h0, .inr (11, oX w sg ro tr gX)), (tr, .inr (9, oT w sg ro gT 0 0 0 0))]) [0, 1] rfl
  have hDc := hD.sub (ws' := [(h0, .inr (11, oX w sg ro tr gX)), (tr, .inr (9, oT w sg ro gT 0 0 0 0))]) [0, 1] (by decide) rfl
  have hKc := hK.sub (tys' := []) [] rfl
  have hFc := roF hS hA
  refine vx_callv (vx_runV (As := [.int a0]) (rest := []) ⟨hx, hb, hml, hown, hts⟩ (c_X11_needPacket l dC dI s.heap.size hfl h0 w sg ro tr gX gT a0) (cwV 1 hts (gV u_1052 u_1054 v_27 u_1 u_1055) rfl rfl rfl (by decide +kernel) ⟨Nat.le_of_ble_eq_true rfl, Nat.le_of_ble_eq_true rfl⟩) ⟨gPZ_blind, va_recv hKc hPc (ci := 11) (q0 := 0) rfl rfl, gPZ_call hPc hKc hDc hE hZ hS hFc⟩ rfl rfl hl.1 rfl (lv_room (Nat.le_of_ble_eq_true rfl)) dX11_fate_2 ⟨(Nat.le_of_ble_eq_true rfl), (Nat.le_of_ble_eq_true rfl)⟩) hS (fun q _ h => hFc q h) hFc (fun q _ h => hFc q h) (fun E9 ce9 q51 u9 t9 H49 locs ht hvm hpx hBX hz1 hk1 hS hce hcv hcl => ?_) (fun u9 t9 H49 locs ht hvm hw hB hz1 hk1 hS => hw.elim)
  exact vx_out (fun x h => (ht0 x h).elim) hlocks hce hcv hcl (fun t ht _ => ⟨(), trivial, hBX, hS.F ht⟩) hS.2.2 (Nat.le_of_ble_eq_true rfl) (Nat.le_of_ble_eq_true rfl)
set_option maxHeartbeats 4000000 in
set_option maxRecDepth 100000 in
theorem c_X11_where (l : Launch) (dC : Nat → ClassId) (dI : Nat → Nat → Nat) (sz : Nat) (hfl : l.stackTraces = false) (h0 : Nat) (w : Nat) (sg : Nat) (ro : Nat) (tr : Nat) (gX : Nat → Nat) (gT : Nat → Nat) (a0 : Int32) : vx_Met l yX11_where (Cond.code yX11_where cX11_where 2 (some .int) :: gU) ({ frames := 7, cells := 1, slots := 6, locals := 103 }) (gPZ dC dI sz [(h0, .inr (11, oX w sg ro tr gX)), (tr, .inr (9, oT w sg ro gT 0 0 0 0))] [] (va_A [] sz) [.ref h0, .int a0]) (va_Qi (fun (r : Int32) (_ : Unit) => False) (fun _ _ => True) (va_A [] sz)) (vx_X (fun _ : Unit => True) (fun E9 _ _ => E9 = "java/lang/IndexOutOfBoundsException") (va_A [] sz)) 1 6 (va_A [] sz) := by
  refine vx_ofW (cc := cX11_where) (maxL := 2) (ret := (some .int)) (by decide) rfl ?_
  intro p e s m args below meth c s₁ B hml ht0 hv
  obtain ⟨rfl, hsz, hP, hK, hD0, hE, hZ⟩ := hv
  have hx := B.exec
  have hb := B.bytes
  have hr := B.returns
  have hts0 := atoms_spec (ws := Cond.code yX11_where cX11_where 2 (some .int) :: gU) B.pre
  have hts : ∀ w ∈ gU, w.before _ s = true := fun w h => hts0 w (List.mem_cons_of_mem _ h)
  have hown : s.vm.findClass RX11 = some m.cls := findClass_of_methodNamed B.named
  have hlocks := B.notSynchronized
  subst hsz
  have hD := hD0
  generalize hAe : va_A [] s.heap.size = A at hZ ⊢
  have hA : ∀ q : Nat, s.heap.size ≤ q → A q := fun q h => by rw [← hAe]; exact Or.inr h
  have hS : va_S A s.heap s.heap [] := va_S.rf
  have hP : va_P (dC, dI) vwCl [(h0, .inr (11, oX w sg ro tr gX)), (tr, .inr (9, oT w sg ro gT 0 0 0 0))] s.heap := hP
  have hl := lv_entry ([.ref h0, .int a0]) (n := 2) (Nat.le_of_ble_eq_true rfl)
  rw [lg_entry_eq]
  generalize (lg_sl ([.ref h0, .int a0]) ++ List.replicate (2 - (lg_sl ([.ref h0, .int a0])).length) Slot.unset).toArray = ls at hl ⊢
  have hl : lv_has ls 2 [(0, .ref h0), (1, .int a0)] := hl
  refine lv_aload_n hx hb dX11_where_0 rfl (lv_at hl 0 rfl) ?_
  refine lv_iload_n hx hb dX11_where_1 rfl (lv_at hl 1 rfl) ?_
  have hPc := hP.sub (ws' := [(h0, .inr (11, oX w sg ro tr gX)), (tr, .inr (9, oT w sg ro gT 0 0 0 0))]) [0, 1] rfl
  have hDc := hD.sub (ws' := [(h0, .inr (11, oX w sg ro tr gX)), (tr, .inr (9, oT w sg ro gT 0 0 0 0))]) [0, 1] (by decide) rfl
  have hKc := hK.sub (tys' := []) [] rfl
  have hFc := roF hS hA
  refine vx_callv (vx_runV (As := [.int a0]) (rest := []) ⟨hx, hb, hml, hown, hts⟩ (c_X11_needPacket l dC dI s.heap.size hfl h0 w sg ro tr gX gT a0) (cwV 1 hts (gV u_1052 u_1054 v_27 u_1 u_1055) rfl rfl rfl (by decide +kernel) ⟨Nat.le_of_ble_eq_true rfl, Nat.le_of_ble_eq_true rfl⟩) ⟨gPZ_blind, va_recv hKc hPc (ci := 11) (q0 := 0) rfl rfl, gPZ_call hPc hKc hDc hE hZ hS hFc⟩ rfl rfl hl.1 rfl (lv_room (Nat.le_of_ble_eq_true rfl)) dX11_where_2 ⟨(Nat.le_of_ble_eq_true rfl), (Nat.le_of_ble_eq_true rfl)⟩) hS (fun q _ h => hFc q h) hFc (fun q _ h => hFc q h) (fun E9 ce9 q54 u9 t9 H52 locs ht hvm hpx hBX hz1 hk1 hS hce hcv hcl => ?_) (fun u9 t9 H52 locs ht hvm hw hB hz1 hk1 hS => hw.elim)
  exact vx_out (fun x h => (ht0 x h).elim) hlocks hce hcv hcl (fun t ht _ => ⟨(), trivial, hBX, hS.F ht⟩) hS.2.2 (Nat.le_of_ble_eq_true rfl) (Nat.le_of_ble_eq_true rfl)
set_option maxHeartbeats 4000000 in
set_option maxRecDepth 100000 in
theorem c_X11_source (l : Launch) (dC : Nat → ClassId) (dI : Nat → Nat → Nat) (sz : Nat) (hfl : l.stackTraces = false) (h0 : Nat) (w : Nat) (sg : Nat) (ro : Nat) (tr : Nat) (gX : Nat → Nat) (gT : Nat → Nat) (a0 : Int32) : vx_Met l yX11_source (Cond.code yX11_source cX11_source 2 (some .int) :: gU) ({ frames := 7, cells := 1, slots := 6, locals := 103 }) (gPZ dC dI sz [(h0, .inr (11, oX w sg ro tr gX)), (tr, .inr (9, oT w sg ro gT 0 0 0 0))] [] (va_A [] sz) [.ref h0, .int a0]) (va_Qi (fun (r : Int32) (_ : Unit) => False) (fun _ _ => True) (va_A [] sz)) (vx_X (fun _ : Unit => True) (fun E9 _ _ => E9 = "java/lang/IndexOutOfBoundsException") (va_A [] sz)) 1 6 (va_A [] sz) := by
  refine vx_ofW (cc := cX11_source) (maxL := 2) (ret := (some .int)) (by decide) rfl ?_
  intro p e s m args below meth c s₁ B hml ht0 hv
  obtain ⟨rfl, hsz, hP, hK, hD0, hE, hZ⟩ := hv
  have hx := B.exec
  have hb := B.bytes
  have hr := B.returns
  have hts0 := atoms_spec (ws := Cond.code yX11_source cX11_source 2 (some .int) :: gU) B.pre
  have hts : ∀ w ∈ gU, w.before _ s = true := fun w h => hts0 w (List.mem_cons_of_mem _ h)
  have hown : s.vm.findClass RX11 = some m.cls := findClass_of_methodNamed B.named
  have hlocks := B.notSynchronized
  subst hsz
  have hD := hD0
  generalize hAe : va_A [] s.heap.size = A at hZ ⊢
  have hA : ∀ q : Nat, s.heap.size ≤ q → A q := fun q h => by rw [← hAe]; exact Or.inr h
  have hS : va_S A s.heap s.heap [] := va_S.rf
  have hP : va_P (dC, dI) vwCl [(h0, .inr (11, oX w sg ro tr gX)), (tr, .inr (9, oT w sg ro gT 0 0 0 0))] s.heap := hP
  have hl := lv_entry ([.ref h0, .int a0]) (n := 2) (Nat.le_of_ble_eq_true rfl)
  rw [lg_entry_eq]
  generalize (lg_sl ([.ref h0, .int a0]) ++ List.replicate (2 - (lg_sl ([.ref h0, .int a0])).length) Slot.unset).toArray = ls at hl ⊢
  have hl : lv_has ls 2 [(0, .ref h0), (1, .int a0)] := hl
  refine lv_aload_n hx hb dX11_source_0 rfl (lv_at hl 0 rfl) ?_
  refine lv_iload_n hx hb dX11_source_1 rfl (lv_at hl 1 rfl) ?_
  have hPc := hP.sub (ws' := [(h0, .inr (11, oX w sg ro tr gX)), (tr, .inr (9, oT w sg ro gT 0 0 0 0))]) [0, 1] rfl
  have hDc := hD.sub (ws' := [(h0, .inr (11, oX w sg ro tr gX)), (tr, .inr (9, oT w sg ro gT 0 0 0 0))]) [0, 1] (by decide) rfl
  have hKc := hK.sub (tys' := []) [] rfl
  have hFc := roF hS hA
  refine vx_callv (vx_runV (As := [.int a0]) (rest := []) ⟨hx, hb, hml, hown, hts⟩ (c_X11_needPacket l dC dI s.heap.size hfl h0 w sg ro tr gX gT a0) (cwV 1 hts (gV u_1052 u_1054 v_27 u_1 u_1055) rfl rfl rfl (by decide +kernel) ⟨Nat.le_of_ble_eq_true rfl, Nat.le_of_ble_eq_true rfl⟩) ⟨gPZ_blind, va_recv hKc hPc (ci := 11) (q0 := 0) rfl rfl, gPZ_call hPc hKc hDc hE hZ hS hFc⟩ rfl rfl hl.1 rfl (lv_room (Nat.le_of_ble_eq_true rfl)) dX11_source_2 ⟨(Nat.le_of_ble_eq_true rfl), (Nat.le_of_ble_eq_true rfl)⟩) hS (fun q _ h => hFc q h) hFc (fun q _ h => hFc q h) (fun E9 ce9 q57 u9 t9 H55 locs ht hvm hpx hBX hz1 hk1 hS hce hcv hcl => ?_) (fun u9 t9 H55 locs ht hvm hw hB hz1 hk1 hS => hw.elim)
  exact vx_out (fun x h => (ht0 x h).elim) hlocks hce hcv hcl (fun t ht _ => ⟨(), trivial, hBX, hS.F ht⟩) hS.2.2 (Nat.le_of_ble_eq_true rfl) (Nat.le_of_ble_eq_true rfl)
set_option maxHeartbeats 4000000 in
set_option maxRecDepth 100000 in
theorem c_X11_noted (l : Launch) (dC : Nat → ClassId) (dI : Nat → Nat → Nat) (sz : Nat) (hfl : l.stackTraces = false) (h0 : Nat) (w : Nat) (sg : Nat) (ro : Nat) (tr : Nat) (gX : Nat → Nat) (kd : Nat) (gW : Nat → Nat) (a0 : Int32) (a1 : Int32) : vx_Met l yX11_noted (Cond.code yX11_noted cX11_noted 3 (some .int) :: gU) ({ frames := 7, cells := 1, slots := 6, locals := 103 }) (gPZ dC dI sz [(h0, .inr (11, oX w sg ro tr gX)), (w, .inr (10, oW kd gW 0 0))] [] (va_A [] sz) [.ref h0, .int a0, .int a1]) (va_Qi (fun (r : Int32) (_ : Unit) => False) (fun _ _ => True) (va_A [] sz)) (vx_X (fun _ : Unit => True) (fun E9 _ _ => E9 = "java/lang/IndexOutOfBoundsException") (va_A [] sz)) 1 6 (va_A [] sz) := by
  refine vx_ofW (cc := cX11_noted) (maxL := 3) (ret := (some .int)) (by decide) rfl ?_
  intro p e s m args below meth c s₁ B hml ht0 hv
  obtain ⟨rfl, hsz, hP, hK, hD0, hE, hZ⟩ := hv
  have hx := B.exec
  have hb := B.bytes
  have hr := B.returns
  have hts0 := atoms_spec (ws := Cond.code yX11_noted cX11_noted 3 (some .int) :: gU) B.pre
  have hts : ∀ w ∈ gU, w.before _ s = true := fun w h => hts0 w (List.mem_cons_of_mem _ h)
  have hown : s.vm.findClass RX11 = some m.cls := findClass_of_methodNamed B.named
  have hlocks := B.notSynchronized
  subst hsz
  have hD := hD0
  generalize hAe : va_A [] s.heap.size = A at hZ ⊢
  have hA : ∀ q : Nat, s.heap.size ≤ q → A q := fun q h => by rw [← hAe]; exact Or.inr h
  have hS : va_S A s.heap s.heap [] := va_S.rf
  have hP : va_P (dC, dI) vwCl [(h0, .inr (11, oX w sg ro tr gX)), (w, .inr (10, oW kd gW 0 0))] s.heap := hP
  have hl := lv_entry ([.ref h0, .int a0, .int a1]) (n := 3) (Nat.le_of_ble_eq_true rfl)
  rw [lg_entry_eq]
  generalize (lg_sl ([.ref h0, .int a0, .int a1]) ++ List.replicate (3 - (lg_sl ([.ref h0, .int a0, .int a1])).length) Slot.unset).toArray = ls at hl ⊢
  have hl : lv_has ls 3 [(0, .ref h0), (1, .int a0), (2, .int a1)] := hl
  refine lv_aload_n hx hb dX11_noted_0 rfl (lv_at hl 0 rfl) ?_
  refine lv_iload_n hx hb dX11_noted_1 rfl (lv_at hl 1 rfl) ?_
  have hPc := hP.sub (ws' := [(h0, .inr (11, oX w sg ro tr gX)), (w, .inr (10, oW kd gW 0 0))]) [0, 1] rfl
  have hDc := hD.sub (ws' := [(h0, .inr (11, oX w sg ro tr gX)), (w, .inr (10, oW kd gW 0 0))]) [0, 1] (by decide) rfl
  have hKc := hK.sub (tys' := []) [] rfl
  have hFc := roF hS hA
  refine vx_callv (vx_runV (As := [.int a0]) (rest := []) ⟨hx, hb, hml, hown, hts⟩ (c_X11_needBox l dC dI s.heap.size hfl h0 w sg ro tr gX kd gW a0) (cwV 1 hts (gV u_782 u_784 v_12 u_1 u_785) rfl rfl rfl (by decide +kernel) ⟨Nat.le_of_ble_eq_true rfl, Nat.le_of_ble_eq_true rfl⟩) ⟨gPZ_blind, va_recv hKc hPc (ci := 11) (q0 := 0) rfl rfl, gPZ_call hPc hKc hDc hE hZ hS hFc⟩ rfl rfl hl.1 rfl (lv_room (Nat.le_of_ble_eq_true rfl)) dX11_noted_2 ⟨(Nat.le_of_ble_eq_true rfl), (Nat.le_of_ble_eq_true rfl)⟩) hS (fun q _ h => hFc q h) hFc (fun q _ h => hFc q h) (fun E9 ce9 q60 u9 t9 H58 locs ht hvm hpx hBX hz1 hk1 hS hce hcv hcl => ?_) (fun u9 t9 H58 locs ht hvm hw hB hz1 hk1 hS => hw.elim)
  exact vx_out (fun x h => (ht0 x h).elim) hlocks hce hcv hcl (fun t ht _ => ⟨(), trivial, hBX, hS.F ht⟩) hS.2.2 (Nat.le_of_ble_eq_true rfl) (Nat.le_of_ble_eq_true rfl)
set_option maxHeartbeats 4000000 in
set_option maxRecDepth 100000 in
theorem c_X11_learnt (l : Launch) (dC : Nat → ClassId) (dI : Nat → Nat → Nat) (sz : Nat) (hfl : l.stackTraces = false) (h0 : Nat) (w : Nat) (sg : Nat) (ro : Nat) (tr : Nat) (gX : Nat → Nat) (kd : Nat) (gW : Nat → Nat) (a0 : Int32) (a1 : Int32) (a2 : Int32) : vx_Met l yX11_learnt (Cond.code yX11_learnt cX11_learnt 4 (some .int) :: gU) ({ frames := 7, cells := 1, slots := 6, locals := 103 }) (gPZ dC dI sz [(h0, .inr (11, oX w sg ro tr gX)), (w, .inr (10, oW kd gW 0 0))] [] (va_A [] sz) [.ref h0, .int a0, .int a1, .int a2]) (va_Qi (fun (r : Int32) (_ : Unit) => False) (fun _ _ => True) (va_A [] sz)) (vx_X (fun _ : Unit => True) (fun E9 _ _ => E9 = "java/lang/IndexOutOfBoundsException") (va_A [] sz)) 1 6 (va_A [] sz) := by
  refine vx_ofW (cc := cX11_learnt) (maxL := 4) (ret := (some .int)) (by decide) rfl ?_
  intro p e s m args below meth c s₁ B hml ht0 hv
  obtain ⟨rfl, hsz, hP, hK, hD0, hE, hZ⟩ := hv
  have hx := B.exec
  have hb := B.bytes
  have hr := B.returns
  have hts0 := atoms_spec (ws := Cond.code yX11_learnt cX11_learnt 4 (some .int) :: gU) B.pre
  have hts : ∀ w ∈ gU, w.before _ s = true := fun w h => hts0 w (List.mem_cons_of_mem _ h)
  have hown : s.vm.findClass RX11 = some m.cls := findClass_of_methodNamed B.named
  have hlocks := B.notSynchronized
  subst hsz
  have hD := hD0
  generalize hAe : va_A [] s.heap.size = A at hZ ⊢
  have hA : ∀ q : Nat, s.heap.size ≤ q → A q := fun q h => by rw [← hAe]; exact Or.inr h
  have hS : va_S A s.heap s.heap [] := va_S.rf
  have hP : va_P (dC, dI) vwCl [(h0, .inr (11, oX w sg ro tr gX)), (w, .inr (10, oW kd gW 0 0))] s.heap := hP
  have hl := lv_entry ([.ref h0, .int a0, .int a1, .int a2]) (n := 4) (Nat.le_of_ble_eq_true rfl)
  rw [lg_entry_eq]
  generalize (lg_sl ([.ref h0, .int a0, .int a1, .int a2]) ++ List.replicate (4 - (lg_sl ([.ref h0, .int a0, .int a1, .int a2])).length) Slot.unset).toArray = ls at hl ⊢
  have hl : lv_has ls 4 [(0, .ref h0), (1, .int a0), (2, .int a1), (3, .int a2)] := hl
  refine lv_aload_n hx hb dX11_learnt_0 rfl (lv_at hl 0 rfl) ?_
  refine lv_iload_n hx hb dX11_learnt_1 rfl (lv_at hl 1 rfl) ?_
  have hPc := hP.sub (ws' := [(h0, .inr (11, oX w sg ro tr gX)), (w, .inr (10, oW kd gW 0 0))]) [0, 1] rfl
  have hDc := hD.sub (ws' := [(h0, .inr (11, oX w sg ro tr gX)), (w, .inr (10, oW kd gW 0 0))]) [0, 1] (by decide) rfl
  have hKc := hK.sub (tys' := []) [] rfl
  have hFc := roF hS hA
  refine vx_callv (vx_runV (As := [.int a0]) (rest := []) ⟨hx, hb, hml, hown, hts⟩ (c_X11_needBox l dC dI s.heap.size hfl h0 w sg ro tr gX kd gW a0) (cwV 1 hts (gV u_782 u_784 v_12 u_1 u_785) rfl rfl rfl (by decide +kernel) ⟨Nat.le_of_ble_eq_true rfl, Nat.le_of_ble_eq_true rfl⟩) ⟨gPZ_blind, va_recv hKc hPc (ci := 11) (q0 := 0) rfl rfl, gPZ_call hPc hKc hDc hE hZ hS hFc⟩ rfl rfl hl.1 rfl (lv_room (Nat.le_of_ble_eq_true rfl)) dX11_learnt_2 ⟨(Nat.le_of_ble_eq_true rfl), (Nat.le_of_ble_eq_true rfl)⟩) hS (fun q _ h => hFc q h) hFc (fun q _ h => hFc q h) (fun E9 ce9 q63 u9 t9 H61 locs ht hvm hpx hBX hz1 hk1 hS hce hcv hcl => ?_) (fun u9 t9 H61 locs ht hvm hw hB hz1 hk1 hS => hw.elim)
  exact vx_out (fun x h => (ht0 x h).elim) hlocks hce hcv hcl (fun t ht _ => ⟨(), trivial, hBX, hS.F ht⟩) hS.2.2 (Nat.le_of_ble_eq_true rfl) (Nat.le_of_ble_eq_true rfl)
set_option maxHeartbeats 4000000 in
set_option maxRecDepth 100000 in
theorem c_X11_reach (l : Launch) (dC : Nat → ClassId) (dI : Nat → Nat → Nat) (sz : Nat) (hfl : l.stackTraces = false) (h0 : Nat) (w : Nat) (sg : Nat) (ro : Nat) (tr : Nat) (gX : Nat → Nat) (kd : Nat) (gW : Nat → Nat) (a0 : Int32) (a1 : Int32) : vx_Met l yX11_reach (Cond.code yX11_reach cX11_reach 3 (some .int) :: gU) ({ frames := 7, cells := 1, slots := 6, locals := 103 }) (gPZ dC dI sz [(h0, .inr (11, oX w sg ro tr gX)), (w, .inr (10, oW kd gW 0 0))] [] (va_A [] sz) [.ref h0, .int a0, .int a1]) (va_Qi (fun (r : Int32) (_ : Unit) => False) (fun _ _ => True) (va_A [] sz)) (vx_X (fun _ : Unit => True) (fun E9 _ _ => E9 = "java/lang/IndexOutOfBoundsException") (va_A [] sz)) 1 6 (va_A [] sz) := by
  refine vx_ofW (cc := cX11_reach) (maxL := 3) (ret := (some .int)) (by decide) rfl ?_
  intro p e s m args below meth c s₁ B hml ht0 hv
  obtain ⟨rfl, hsz, hP, hK, hD0, hE, hZ⟩ := hv
  have hx := B.exec
  have hb := B.bytes
  have hr := B.returns
  have hts0 := atoms_spec (ws := Cond.code yX11_reach cX11_reach 3 (some .int) :: gU) B.pre
  have hts : ∀ w ∈ gU, w.before _ s = true := fun w h => hts0 w (List.mem_cons_of_mem _ h)
  have hown : s.vm.findClass RX11 = some m.cls := findClass_of_methodNamed B.named
  have hlocks := B.notSynchronized
  subst hsz
  have hD := hD0
  generalize hAe : va_A [] s.heap.size = A at hZ ⊢
  have hA : ∀ q : Nat, s.heap.size ≤ q → A q := fun q h => by rw [← hAe]; exact Or.inr h
  have hS : va_S A s.heap s.heap [] := va_S.rf
  have hP : va_P (dC, dI) vwCl [(h0, .inr (11, oX w sg ro tr gX)), (w, .inr (10, oW kd gW 0 0))] s.heap := hP
  have hl := lv_entry ([.ref h0, .int a0, .int a1]) (n := 3) (Nat.le_of_ble_eq_true rfl)
  rw [lg_entry_eq]
  generalize (lg_sl ([.ref h0, .int a0, .int a1]) ++ List.replicate (3 - (lg_sl ([.ref h0, .int a0, .int a1])).length) Slot.unset).toArray = ls at hl ⊢
  have hl : lv_has ls 3 [(0, .ref h0), (1, .int a0), (2, .int a1)] := hl
  refine lv_aload_n hx hb dX11_reach_0 rfl (lv_at hl 0 rfl) ?_
  refine lv_iload_n hx hb dX11_reach_1 rfl (lv_at hl 1 rfl) ?_
  have hPc := hP.sub (ws' := [(h0, .inr (11, oX w sg ro tr gX)), (w, .inr (10, oW kd gW 0 0))]) [0, 1] rfl
  have hDc := hD.sub (ws' := [(h0, .inr (11, oX w sg ro tr gX)), (w, .inr (10, oW kd gW 0 0))]) [0, 1] (by decide) rfl
  have hKc := hK.sub (tys' := []) [] rfl
  have hFc := roF hS hA
  refine vx_callv (vx_runV (As := [.int a0]) (rest := []) ⟨hx, hb, hml, hown, hts⟩ (c_X11_needBox l dC dI s.heap.size hfl h0 w sg ro tr gX kd gW a0) (cwV 1 hts (gV u_782 u_784 v_12 u_1 u_785) rfl rfl rfl (by decide +kernel) ⟨Nat.le_of_ble_eq_true rfl, Nat.le_of_ble_eq_true rfl⟩) ⟨gPZ_blind, va_recv hKc hPc (ci := 11) (q0 := 0) rfl rfl, gPZ_call hPc hKc hDc hE hZ hS hFc⟩ rfl rfl hl.1 rfl (lv_room (Nat.le_of_ble_eq_true rfl)) dX11_reach_2 ⟨(Nat.le_of_ble_eq_true rfl), (Nat.le_of_ble_eq_true rfl)⟩) hS (fun q _ h => hFc q h) hFc (fun q _ h => hFc q h) (fun E9 ce9 q66 u9 t9 H64 locs ht hvm hpx hBX hz1 hk1 hS hce hcv hcl => ?_) (fun u9 t9 H64 locs ht hvm hw hB hz1 hk1 hS => hw.elim)
  exact vx_out (fun x h => (ht0 x h).elim) hlocks hce hcv hcl (fun t ht _ => ⟨(), trivial, hBX, hS.F ht⟩) hS.2.2 (Nat.le_of_ble_eq_true rfl) (Nat.le_of_ble_eq_true rfl)
set_option maxHeartbeats 4000000 in
set_option maxRecDepth 100000 in
theorem c_X11_reachAnew (l : Launch) (dC : Nat → ClassId) (dI : Nat → Nat → Nat) (sz : Nat) (hfl : l.stackTraces = false) (h0 : Nat) (w : Nat) (sg : Nat) (ro : Nat) (tr : Nat) (gX : Nat → Nat) (kd : Nat) (gW : Nat → Nat) (a0 : Int32) (a1 : Int32) : vx_Met l yX11_reachAnew (Cond.code yX11_reachAnew cX11_reachAnew 3 (some .int) :: gU) ({ frames := 7, cells := 1, slots := 6, locals := 103 }) (gPZ dC dI sz [(h0, .inr (11, oX w sg ro tr gX)), (w, .inr (10, oW kd gW 0 0))] [] (va_A [] sz) [.ref h0, .int a0, .int a1]) (va_Qi (fun (r : Int32) (_ : Unit) => False) (fun _ _ => True) (va_A [] sz)) (vx_X (fun _ : Unit => True) (fun E9 _ _ => E9 = "java/lang/IndexOutOfBoundsException") (va_A [] sz)) 1 6 (va_A [] sz) := by
  refine vx_ofW (cc := cX11_reachAnew) (maxL := 3) (ret := (some .int)) (by decide) rfl ?_
  intro p e s m args below meth c s₁ B hml ht0 hv
  obtain ⟨rfl, hsz, hP, hK, hD0, hE, hZ⟩ := hv
  have hx := B.exec
  have hb := B.bytes
  have hr := B.returns
  have hts0 := atoms_spec (ws := Cond.code yX11_reachAnew cX11_reachAnew 3 (some .int) :: gU) B.pre
  have hts : ∀ w ∈ gU, w.before _ s = true := fun w h => hts0 w (List.mem_cons_of_mem _ h)
  have hown : s.vm.findClass RX11 = some m.cls := findClass_of_methodNamed B.named
  have hlocks := B.notSynchronized
  subst hsz
  have hD := hD0
  generalize hAe : va_A [] s.heap.size = A at hZ ⊢
  have hA : ∀ q : Nat, s.heap.size ≤ q → A q := fun q h => by rw [← hAe]; exact Or.inr h
  have hS : va_S A s.heap s.heap [] := va_S.rf
  have hP : va_P (dC, dI) vwCl [(h0, .inr (11, oX w sg ro tr gX)), (w, .inr (10, oW kd gW 0 0))] s.heap := hP
  have hl := lv_entry ([.ref h0, .int a0, .int a1]) (n := 3) (Nat.le_of_ble_eq_true rfl)
  rw [lg_entry_eq]
  generalize (lg_sl ([.ref h0, .int a0, .int a1]) ++ List.replicate (3 - (lg_sl ([.ref h0, .int a0, .int a1])).length) Slot.unset).toArray = ls at hl ⊢
  have hl : lv_has ls 3 [(0, .ref h0), (1, .int a0), (2, .int a1)] := hl
  refine lv_aload_n hx hb dX11_reachAnew_0 rfl (lv_at hl 0 rfl) ?_
  refine lv_iload_n hx hb dX11_reachAnew_1 rfl (lv_at hl 1 rfl) ?_
  have hPc := hP.sub (ws' := [(h0, .inr (11, oX w sg ro tr gX)), (w, .inr (10, oW kd gW 0 0))]) [0, 1] rfl
  have hDc := hD.sub (ws' := [(h0, .inr (11, oX w sg ro tr gX)), (w, .inr (10, oW kd gW 0 0))]) [0, 1] (by decide) rfl
  have hKc := hK.sub (tys' := []) [] rfl
  have hFc := roF hS hA
  refine vx_callv (vx_runV (As := [.int a0]) (rest := []) ⟨hx, hb, hml, hown, hts⟩ (c_X11_needBox l dC dI s.heap.size hfl h0 w sg ro tr gX kd gW a0) (cwV 1 hts (gV u_782 u_784 v_12 u_1 u_785) rfl rfl rfl (by decide +kernel) ⟨Nat.le_of_ble_eq_true rfl, Nat.le_of_ble_eq_true rfl⟩) ⟨gPZ_blind, va_recv hKc hPc (ci := 11) (q0 := 0) rfl rfl, gPZ_call hPc hKc hDc hE hZ hS hFc⟩ rfl rfl hl.1 rfl (lv_room (Nat.le_of_ble_eq_true rfl)) dX11_reachAnew_2 ⟨(Nat.le_of_ble_eq_true rfl), (Nat.le_of_ble_eq_true rfl)⟩) hS (fun q _ h => hFc q h) hFc (fun q _ h => hFc q h) (fun E9 ce9 q69 u9 t9 H67 locs ht hvm hpx hBX hz1 hk1 hS hce hcv hcl => ?_) (fun u9 t9 H67 locs ht hvm hw hB hz1 hk1 hS => hw.elim)
  exact vx_out (fun x h => (ht0 x h).elim) hlocks hce hcv hcl (fun t ht _ => ⟨(), trivial, hBX, hS.F ht⟩) hS.2.2 (Nat.le_of_ble_eq_true rfl) (Nat.le_of_ble_eq_true rfl)
set_option maxHeartbeats 4000000 in
set_option maxRecDepth 100000 in
theorem c_X11_proved (l : Launch) (dC : Nat → ClassId) (dI : Nat → Nat → Nat) (sz : Nat) (hfl : l.stackTraces = false) (h0 : Nat) (w : Nat) (sg : Nat) (ro : Nat) (tr : Nat) (gX : Nat → Nat) (kd : Nat) (gW : Nat → Nat) (a0 : Int32) (a1 : Int32) (a2 : Int32) : vx_Met l yX11_proved (Cond.code yX11_proved cX11_proved 4 (some .int) :: gU) ({ frames := 7, cells := 1, slots := 6, locals := 103 }) (gPZ dC dI sz [(h0, .inr (11, oX w sg ro tr gX)), (w, .inr (10, oW kd gW 0 0))] [] (va_A [] sz) [.ref h0, .int a0, .int a1, .int a2]) (va_Qi (fun (r : Int32) (_ : Unit) => False) (fun _ _ => True) (va_A [] sz)) (vx_X (fun _ : Unit => True) (fun E9 _ _ => E9 = "java/lang/IndexOutOfBoundsException") (va_A [] sz)) 1 6 (va_A [] sz) := by
  refine vx_ofW (cc := cX11_proved) (maxL := 4) (ret := (some .int)) (by decide) rfl ?_
  intro p e s m args below meth c s₁ B hml ht0 hv
  obtain ⟨rfl, hsz, hP, hK, hD0, hE, hZ⟩ := hv
  have hx := B.exec
  have hb := B.bytes
  have hr := B.returns
  have hts0 := atoms_spec (ws := Cond.code yX11_proved cX11_proved 4 (some .int) :: gU) B.pre
  have hts : ∀ w ∈ gU, w.before _ s = true := fun w h => hts0 w (List.mem_cons_of_mem _ h)
  have hown : s.vm.findClass RX11 = some m.cls := findClass_of_methodNamed B.named
  have hlocks := B.notSynchronized
  subst hsz
  have hD := hD0
  generalize hAe : va_A [] s.heap.size = A at hZ ⊢
  have hA : ∀ q : Nat, s.heap.size ≤ q → A q := fun q h => by rw [← hAe]; exact Or.inr h
  have hS : va_S A s.heap s.heap [] := va_S.rf
  have hP : va_P (dC, dI) vwCl [(h0, .inr (11, oX w sg ro tr gX)), (w, .inr (10, oW kd gW 0 0))] s.heap := hP
  have hl := lv_entry ([.ref h0, .int a0, .int a1, .int a2]) (n := 4) (Nat.le_of_ble_eq_true rfl)
  rw [lg_entry_eq]
  generalize (lg_sl ([.ref h0, .int a0, .int a1, .int a2]) ++ List.replicate (4 - (lg_sl ([.ref h0, .int a0, .int a1, .int a2])).length) Slot.unset).toArray = ls at hl ⊢
  have hl : lv_has ls 4 [(0, .ref h0), (1, .int a0), (2, .int a1), (3, .int a2)] := hl
  refine lv_aload_n hx hb dX11_proved_0 rfl (lv_at hl 0 rfl) ?_
  refine lv_iload_n hx hb dX11_proved_1 rfl (lv_at hl 1 rfl) ?_
  have hPc := hP.sub (ws' := [(h0, .inr (11, oX w sg ro tr gX)), (w, .inr (10, oW kd gW 0 0))]) [0, 1] rfl
  have hDc := hD.sub (ws' := [(h0, .inr (11, oX w sg ro tr gX)), (w, .inr (10, oW kd gW 0 0))]) [0, 1] (by decide) rfl
  have hKc := hK.sub (tys' := []) [] rfl
  have hFc := roF hS hA
  refine vx_callv (vx_runV (As := [.int a0]) (rest := []) ⟨hx, hb, hml, hown, hts⟩ (c_X11_needBox l dC dI s.heap.size hfl h0 w sg ro tr gX kd gW a0) (cwV 1 hts (gV u_782 u_784 v_12 u_1 u_785) rfl rfl rfl (by decide +kernel) ⟨Nat.le_of_ble_eq_true rfl, Nat.le_of_ble_eq_true rfl⟩) ⟨gPZ_blind, va_recv hKc hPc (ci := 11) (q0 := 0) rfl rfl, gPZ_call hPc hKc hDc hE hZ hS hFc⟩ rfl rfl hl.1 rfl (lv_room (Nat.le_of_ble_eq_true rfl)) dX11_proved_2 ⟨(Nat.le_of_ble_eq_true rfl), (Nat.le_of_ble_eq_true rfl)⟩) hS (fun q _ h => hFc q h) hFc (fun q _ h => hFc q h) (fun E9 ce9 q72 u9 t9 H70 locs ht hvm hpx hBX hz1 hk1 hS hce hcv hcl => ?_) (fun u9 t9 H70 locs ht hvm hw hB hz1 hk1 hS => hw.elim)
  exact vx_out (fun x h => (ht0 x h).elim) hlocks hce hcv hcl (fun t ht _ => ⟨(), trivial, hBX, hS.F ht⟩) hS.2.2 (Nat.le_of_ble_eq_true rfl) (Nat.le_of_ble_eq_true rfl)
set_option maxHeartbeats 4000000 in
set_option maxRecDepth 100000 in
theorem c_X11_way (l : Launch) (dC : Nat → ClassId) (dI : Nat → Nat → Nat) (sz : Nat) (hfl : l.stackTraces = false) (h0 : Nat) (w : Nat) (sg : Nat) (ro : Nat) (tr : Nat) (gX : Nat → Nat) (kd : Nat) (gW : Nat → Nat) (a0 : Int32) (a1 : Int32) (a2 : Int32) (a3 : Int32) : vx_Met l yX11_way (Cond.code yX11_way cX11_way 5 (some .int) :: gU) ({ frames := 7, cells := 1, slots := 6, locals := 103 }) (gPZ dC dI sz [(h0, .inr (11, oX w sg ro tr gX)), (w, .inr (10, oW kd gW 0 0))] [] (va_A [] sz) [.ref h0, .int a0, .int a1, .int a2, .int a3]) (va_Qi (fun (r : Int32) (_ : Unit) => False) (fun _ _ => True) (va_A [] sz)) (vx_X (fun _ : Unit => True) (fun E9 _ _ => E9 = "java/lang/IndexOutOfBoundsException") (va_A [] sz)) 1 6 (va_A [] sz) := by
  refine vx_ofW (cc := cX11_way) (maxL := 5) (ret := (some .int)) (by decide) rfl ?_
  intro p e s m args below meth c s₁ B hml ht0 hv
  obtain ⟨rfl, hsz, hP, hK, hD0, hE, hZ⟩ := hv
  have hx := B.exec
  have hb := B.bytes
  have hr := B.returns
  have hts0 := atoms_spec (ws := Cond.code yX11_way cX11_way 5 (some .int) :: gU) B.pre
  have hts : ∀ w ∈ gU, w.before _ s = true := fun w h => hts0 w (List.mem_cons_of_mem _ h)
  have hown : s.vm.findClass RX11 = some m.cls := findClass_of_methodNamed B.named
  have hlocks := B.notSynchronized
  subst hsz
  have hD := hD0
  generalize hAe : va_A [] s.heap.size = A at hZ ⊢
  have hA : ∀ q : Nat, s.heap.size ≤ q → A q := fun q h => by rw [← hAe]; exact Or.inr h
  have hS : va_S A s.heap s.heap [] := va_S.rf
  have hP : va_P (dC, dI) vwCl [(h0, .inr (11, oX w sg ro tr gX)), (w, .inr (10, oW kd gW 0 0))] s.heap := hP
  have hl := lv_entry ([.ref h0, .int a0, .int a1, .int a2, .int a3]) (n := 5) (Nat.le_of_ble_eq_true rfl)
  rw [lg_entry_eq]
  generalize (lg_sl ([.ref h0, .int a0, .int a1, .int a2, .int a3]) ++ List.replicate (5 - (lg_sl ([.ref h0, .int a0, .int a1, .int a2, .int a3])).length) Slot.unset).toArray = ls at hl ⊢
  have hl : lv_has ls 5 [(0, .ref h0), (1, .int a0), (2, .int a1), (3, .int a2), (4, .int a3)] := hl
  refine lv_aload_n hx hb dX11_way_0 rfl (lv_at hl 0 rfl) ?_
  refine lv_iload_n hx hb dX11_way_1 rfl (lv_at hl 1 rfl) ?_
  have hPc := hP.sub (ws' := [(h0, .inr (11, oX w sg ro tr gX)), (w, .inr (10, oW kd gW 0 0))]) [0, 1] rfl
  have hDc := hD.sub (ws' := [(h0, .inr (11, oX w sg ro tr gX)), (w, .inr (10, oW kd gW 0 0))]) [0, 1] (by decide) rfl
  have hKc := hK.sub (tys' := []) [] rfl
  have hFc := roF hS hA
  refine vx_callv (vx_runV (As := [.int a0]) (rest := []) ⟨hx, hb, hml, hown, hts⟩ (c_X11_needBox l dC dI s.heap.size hfl h0 w sg ro tr gX kd gW a0) (cwV 1 hts (gV u_782 u_784 v_12 u_1 u_785) rfl rfl rfl (by decide +kernel) ⟨Nat.le_of_ble_eq_true rfl, Nat.le_of_ble_eq_true rfl⟩) ⟨gPZ_blind, va_recv hKc hPc (ci := 11) (q0 := 0) rfl rfl, gPZ_call hPc hKc hDc hE hZ hS hFc⟩ rfl rfl hl.1 rfl (lv_room (Nat.le_of_ble_eq_true rfl)) dX11_way_2 ⟨(Nat.le_of_ble_eq_true rfl), (Nat.le_of_ble_eq_true rfl)⟩) hS (fun q _ h => hFc q h) hFc (fun q _ h => hFc q h) (fun E9 ce9 q75 u9 t9 H73 locs ht hvm hpx hBX hz1 hk1 hS hce hcv hcl => ?_) (fun u9 t9 H73 locs ht hvm hw hB hz1 hk1 hS => hw.elim)
  exact vx_out (fun x h => (ht0 x h).elim) hlocks hce hcv hcl (fun t ht _ => ⟨(), trivial, hBX, hS.F ht⟩) hS.2.2 (Nat.le_of_ble_eq_true rfl) (Nat.le_of_ble_eq_true rfl)
