theorem dX10_hasBox_0 : decode cX10_hasBox 0 = .ok (.iload_n 1, 1) := by decide +kernel
theorem dX10_hasBox_1 : decode cX10_hasBox 1 = .ok (.ifCond .lt 15, 3) := by decide +kernel
theorem dX10_hasBox_4 : decode cX10_hasBox 4 = .ok (.iload_n 1, 1) := by decide +kernel
theorem dX10_hasBox_5 : decode cX10_hasBox 5 = .ok (.aload_n 0, 1) := by decide +kernel
theorem dX10_hasBox_6 : decode cX10_hasBox 6 = .ok (.getfield 46, 3) := by decide +kernel
theorem dX10_hasBox_9 : decode cX10_hasBox 9 = .ok (.if_icmp .ge 7, 3) := by decide +kernel
theorem dX10_hasBox_16 : decode cX10_hasBox 16 = .ok (.iconst 0, 1) := by decide +kernel
theorem dX10_hasBox_17 : decode cX10_hasBox 17 = .ok (.ireturn, 1) := by decide +kernel
theorem dX10_hasPort_0 : decode cX10_hasPort 0 = .ok (.iload_n 1, 1) := by decide +kernel
theorem dX10_hasPort_1 : decode cX10_hasPort 1 = .ok (.ifCond .ge 5, 3) := by decide +kernel
theorem dX10_hasPort_4 : decode cX10_hasPort 4 = .ok (.iconst 0, 1) := by decide +kernel
theorem dX10_hasPort_5 : decode cX10_hasPort 5 = .ok (.ireturn, 1) := by decide +kernel
theorem dX10_hasPort_6 : decode cX10_hasPort 6 = .ok (.aload_n 0, 1) := by decide +kernel
theorem dX10_hasPort_7 : decode cX10_hasPort 7 = .ok (.iload_n 1, 1) := by decide +kernel
theorem dX10_hasPort_8 : decode cX10_hasPort 8 = .ok (.invokestatic 50, 3) := by decide +kernel
theorem dX10_hasPort_11 : decode cX10_hasPort 11 = .ok (.invokevirtual 54, 3) := by decide +kernel
theorem dX10_hasPort_14 : decode cX10_hasPort 14 = .ok (.istore_n 2, 1) := by decide +kernel
theorem dX10_hasPort_15 : decode cX10_hasPort 15 = .ok (.iload_n 2, 1) := by decide +kernel
theorem dX10_hasPort_16 : decode cX10_hasPort 16 = .ok (.ifCond .ne 7, 3) := by decide +kernel
theorem dX10_hasPort_23 : decode cX10_hasPort 23 = .ok (.iload_n 2, 1) := by decide +kernel
theorem dX10_hasPort_24 : decode cX10_hasPort 24 = .ok (.iconst 2, 1) := by decide +kernel
theorem dX10_hasPort_25 : decode cX10_hasPort 25 = .ok (.if_icmp .ne 7, 3) := by decide +kernel
theorem dX10_hasPort_32 : decode cX10_hasPort 32 = .ok (.iload_n 2, 1) := by decide +kernel
theorem dX10_hasPort_33 : decode cX10_hasPort 33 = .ok (.iconst 1, 1) := by decide +kernel
theorem dX10_hasPort_34 : decode cX10_hasPort 34 = .ok (.if_icmp .ne 7, 3) := by decide +kernel
theorem dX10_hasPort_41 : decode cX10_hasPort 41 = .ok (.iconst 0, 1) := by decide +kernel
theorem dX10_hasPort_42 : decode cX10_hasPort 42 = .ok (.istore_n 3, 1) := by decide +kernel
theorem dX10_hasPort_43 : decode cX10_hasPort 43 = .ok (.iload_n 1, 1) := by decide +kernel
theorem dX10_hasPort_44 : decode cX10_hasPort 44 = .ok (.invokestatic 57, 3) := by decide +kernel
theorem dX10_hasPort_47 : decode cX10_hasPort 47 = .ok (.iload_n 3, 1) := by decide +kernel
theorem dX10_hasPort_48 : decode cX10_hasPort 48 = .ok (.if_icmp .ge 7, 3) := by decide +kernel
theorem dX10_hasPort_55 : decode cX10_hasPort 55 = .ok (.iconst 0, 1) := by decide +kernel
theorem dX10_hasPort_56 : decode cX10_hasPort 56 = .ok (.ireturn, 1) := by decide +kernel
theorem dX10_isStation_0 : decode cX10_isStation 0 = .ok (.aload_n 0, 1) := by decide +kernel
theorem dX10_isStation_1 : decode cX10_isStation 1 = .ok (.iload_n 1, 1) := by decide +kernel
theorem dX10_isStation_2 : decode cX10_isStation 2 = .ok (.invokevirtual 60, 3) := by decide +kernel
theorem dX10_isStation_5 : decode cX10_isStation 5 = .ok (.ifCond .eq 19, 3) := by decide +kernel
theorem dX10_isStation_24 : decode cX10_isStation 24 = .ok (.iconst 0, 1) := by decide +kernel
theorem dX10_isStation_25 : decode cX10_isStation 25 = .ok (.ireturn, 1) := by decide +kernel
theorem dX10_kindOf_0 : decode cX10_kindOf 0 = .ok (.iload_n 1, 1) := by decide +kernel
theorem dX10_kindOf_1 : decode cX10_kindOf 1 = .ok (.ifCond .lt 20, 3) := by decide +kernel
theorem dX10_kindOf_4 : decode cX10_kindOf 4 = .ok (.iload_n 1, 1) := by decide +kernel
theorem dX10_kindOf_5 : decode cX10_kindOf 5 = .ok (.aload_n 0, 1) := by decide +kernel
theorem dX10_kindOf_6 : decode cX10_kindOf 6 = .ok (.getfield 46, 3) := by decide +kernel
theorem dX10_kindOf_9 : decode cX10_kindOf 9 = .ok (.if_icmp .ge 12, 3) := by decide +kernel
theorem dX10_kindOf_21 : decode cX10_kindOf 21 = .ok (.iconst (-1), 1) := by decide +kernel
theorem dX10_kindOf_22 : decode cX10_kindOf 22 = .ok (.ireturn, 1) := by decide +kernel
theorem dX11_boxOf_0 : decode cX11_boxOf 0 = .ok (.iload_n 0, 1) := by decide +kernel
theorem dX11_boxOf_1 : decode cX11_boxOf 1 = .ok (.iconst 4, 1) := by decide +kernel
theorem dX11_boxOf_2 : decode cX11_boxOf 2 = .ok (.idiv, 1) := by decide +kernel
theorem dX11_boxOf_3 : decode cX11_boxOf 3 = .ok (.ireturn, 1) := by decide +kernel
theorem dX11_needBox_0 : decode cX11_needBox 0 = .ok (.aload_n 0, 1) := by decide +kernel
theorem dX11_needBox_1 : decode cX11_needBox 1 = .ok (.getfield 12, 3) := by decide +kernel
theorem dX11_needBox_4 : decode cX11_needBox 4 = .ok (.iload_n 1, 1) := by decide +kernel
theorem dX11_needBox_5 : decode cX11_needBox 5 = .ok (.invokevirtual 222, 3) := by decide +kernel
theorem dX11_needBox_8 : decode cX11_needBox 8 = .ok (.ifCond .ne 13, 3) := by decide +kernel
theorem dX11_needBox_11 : decode cX11_needBox 11 = .ok (.new 211, 3) := by decide +kernel
theorem dX11_needBox_14 : decode cX11_needBox 14 = .ok (.dup, 1) := by decide +kernel
theorem dX11_needBox_15 : decode cX11_needBox 15 = .ok (.ldc 225, 2) := by decide +kernel
theorem dX11_needBox_17 : decode cX11_needBox 17 = .ok (.invokespecial 215, 3) := by decide +kernel
theorem dX11_needBox_20 : decode cX11_needBox 20 = .ok (.athrow, 1) := by decide +kernel
theorem dX11_needCable_0 : decode cX11_needCable 0 = .ok (.iload_n 1, 1) := by decide +kernel
theorem dX11_needCable_1 : decode cX11_needCable 1 = .ok (.ifCond .lt 14, 3) := by decide +kernel
theorem dX11_needCable_4 : decode cX11_needCable 4 = .ok (.iload_n 1, 1) := by decide +kernel
theorem dX11_needCable_5 : decode cX11_needCable 5 = .ok (.aload_n 0, 1) := by decide +kernel
theorem dX11_needCable_6 : decode cX11_needCable 6 = .ok (.getfield 12, 3) := by decide +kernel
theorem dX11_needCable_9 : decode cX11_needCable 9 = .ok (.getfield 232, 3) := by decide +kernel
theorem dX11_needCable_12 : decode cX11_needCable 12 = .ok (.if_icmp .lt 13, 3) := by decide +kernel
theorem dX11_needCable_15 : decode cX11_needCable 15 = .ok (.new 211, 3) := by decide +kernel
theorem dX11_needCable_18 : decode cX11_needCable 18 = .ok (.dup, 1) := by decide +kernel
theorem dX11_needCable_19 : decode cX11_needCable 19 = .ok (.ldc 235, 2) := by decide +kernel
theorem dX11_needCable_21 : decode cX11_needCable 21 = .ok (.invokespecial 215, 3) := by decide +kernel
theorem dX11_needCable_24 : decode cX11_needCable 24 = .ok (.athrow, 1) := by decide +kernel
theorem dX11_needPacket_0 : decode cX11_needPacket 0 = .ok (.iload_n 1, 1) := by decide +kernel
theorem dX11_needPacket_1 : decode cX11_needPacket 1 = .ok (.ifCond .lt 14, 3) := by decide +kernel
theorem dX11_needPacket_4 : decode cX11_needPacket 4 = .ok (.iload_n 1, 1) := by decide +kernel
theorem dX11_needPacket_5 : decode cX11_needPacket 5 = .ok (.aload_n 0, 1) := by decide +kernel
theorem dX11_needPacket_6 : decode cX11_needPacket 6 = .ok (.getfield 53, 3) := by decide +kernel
theorem dX11_needPacket_9 : decode cX11_needPacket 9 = .ok (.getfield 237, 3) := by decide +kernel
theorem dX11_needPacket_12 : decode cX11_needPacket 12 = .ok (.if_icmp .lt 13, 3) := by decide +kernel
theorem dX11_needPacket_15 : decode cX11_needPacket 15 = .ok (.new 211, 3) := by decide +kernel
theorem dX11_needPacket_18 : decode cX11_needPacket 18 = .ok (.dup, 1) := by decide +kernel
theorem dX11_needPacket_19 : decode cX11_needPacket 19 = .ok (.ldc 240, 2) := by decide +kernel
theorem dX11_needPacket_21 : decode cX11_needPacket 21 = .ok (.invokespecial 215, 3) := by decide +kernel
theorem dX11_needPacket_24 : decode cX11_needPacket 24 = .ok (.athrow, 1) := by decide +kernel
theorem dX11_needPort_0 : decode cX11_needPort 0 = .ok (.aload_n 0, 1) := by decide +kernel
theorem dX11_needPort_1 : decode cX11_needPort 1 = .ok (.getfield 12, 3) := by decide +kernel
theorem dX11_needPort_4 : decode cX11_needPort 4 = .ok (.iload_n 1, 1) := by decide +kernel
theorem dX11_needPort_5 : decode cX11_needPort 5 = .ok (.invokevirtual 227, 3) := by decide +kernel
theorem dX11_needPort_8 : decode cX11_needPort 8 = .ok (.ifCond .ne 13, 3) := by decide +kernel
theorem dX11_needPort_11 : decode cX11_needPort 11 = .ok (.new 211, 3) := by decide +kernel
theorem dX11_needPort_14 : decode cX11_needPort 14 = .ok (.dup, 1) := by decide +kernel
theorem dX11_needPort_15 : decode cX11_needPort 15 = .ok (.ldc 230, 2) := by decide +kernel
theorem dX11_needPort_17 : decode cX11_needPort 17 = .ok (.invokespecial 215, 3) := by decide +kernel
theorem dX11_needPort_20 : decode cX11_needPort 20 = .ok (.athrow, 1) := by decide +kernel
theorem dX11_ownNumber_0 : decode cX11_ownNumber 0 = .ok (.iload_n 0, 1) := by decide +kernel
theorem dX11_ownNumber_1 : decode cX11_ownNumber 1 = .ok (.iconst 4, 1) := by decide +kernel
theorem dX11_ownNumber_2 : decode cX11_ownNumber 2 = .ok (.irem, 1) := by decide +kernel
theorem dX11_ownNumber_3 : decode cX11_ownNumber 3 = .ok (.ireturn, 1) := by decide +kernel
theorem u_1 : Cond.initialized RX11 ∈ gU := gm (i := 1) (by decide +kernel) (by decide +kernel)
theorem u_2 : Cond.initialized RX10 ∈ gU := gm (i := 2) (by decide +kernel) (by decide +kernel)
theorem u_20 : Cond.initialized "java/lang/IndexOutOfBoundsException" ∈ gU := gm (i := 20) (by decide +kernel) (by decide +kernel)
theorem u_40 : Cond.fieldLink RX10 46 "DrystoneSimnet$Wiring" "boxes" "I" ∈ gU := gm (i := 40) (by decide +kernel) (by decide +kernel)
theorem u_474 : Cond.fieldLink RX11 12 "DrystoneSimnet" "wiring" "LDrystoneSimnet$Wiring;" ∈ gU := gm (i := 474) (by decide +kernel) (by decide +kernel)
theorem u_479 : Cond.fieldLink RX11 53 "DrystoneSimnet" "traffic" "LDrystoneSimnet$Traffic;" ∈ gU := gm (i := 479) (by decide +kernel) (by decide +kernel)
theorem u_615 : Cond.methodLink RX11 227 yX10_hasPort ∈ gU := gm (i := 615) (by decide +kernel) (by decide +kernel)
theorem u_616 : Cond.instanceMethod yX10_hasPort ∈ gU := gm (i := 616) (by decide +kernel) (by decide +kernel)
theorem u_617 : Cond.selects RX10 yX10_hasPort yX10_hasPort ∈ gU := gm (i := 617) (by decide +kernel) (by decide +kernel)
theorem u_618 : Cond.code yX10_hasPort cX10_hasPort 4 (some .boolean) ∈ gU := gm (i := 618) (by decide +kernel) (by decide +kernel)
theorem u_620 : Cond.static yX11_boxOf ∈ gU := gm (i := 620) (by decide +kernel) (by decide +kernel)
theorem u_621 : Cond.code yX11_boxOf cX11_boxOf 1 (some .int) ∈ gU := gm (i := 621) (by decide +kernel) (by decide +kernel)
theorem u_622 : Cond.methodLink RX10 54 yX10_kindOf ∈ gU := gm (i := 622) (by decide +kernel) (by decide +kernel)
theorem u_623 : Cond.instanceMethod yX10_kindOf ∈ gU := gm (i := 623) (by decide +kernel) (by decide +kernel)
theorem u_624 : Cond.selects RX10 yX10_kindOf yX10_kindOf ∈ gU := gm (i := 624) (by decide +kernel) (by decide +kernel)
theorem u_625 : Cond.code yX10_kindOf cX10_kindOf 2 (some .int) ∈ gU := gm (i := 625) (by decide +kernel) (by decide +kernel)
theorem u_627 : Cond.static yX11_ownNumber ∈ gU := gm (i := 627) (by decide +kernel) (by decide +kernel)
theorem u_628 : Cond.code yX11_ownNumber cX11_ownNumber 1 (some .int) ∈ gU := gm (i := 628) (by decide +kernel) (by decide +kernel)
theorem u_629 : Cond.classLink RX11 211 "java/lang/IndexOutOfBoundsException" ∈ gU := gm (i := 629) (by decide +kernel) (by decide +kernel)
theorem u_732 : Cond.methodLink RX10 60 yX10_hasPort ∈ gU := gm (i := 732) (by decide +kernel) (by decide +kernel)
theorem u_786 : Cond.methodLink RX11 222 yX10_hasBox ∈ gU := gm (i := 786) (by decide +kernel) (by decide +kernel)
theorem u_787 : Cond.instanceMethod yX10_hasBox ∈ gU := gm (i := 787) (by decide +kernel) (by decide +kernel)
theorem u_788 : Cond.selects RX10 yX10_hasBox yX10_hasBox ∈ gU := gm (i := 788) (by decide +kernel) (by decide +kernel)
theorem u_789 : Cond.code yX10_hasBox cX10_hasBox 2 (some .boolean) ∈ gU := gm (i := 789) (by decide +kernel) (by decide +kernel)
theorem gX10 : ∀ w ∈ u_ws RX10 TX10 11, w ∈ gU := gIn [57, 59, 61, 63, 65, 67, 69, 71, 73, 75, 77] (by decide +kernel) (by decide +kernel)
theorem gX11 : ∀ w ∈ u_ws RX11 TX11 7, w ∈ gU := gIn [481, 483, 485, 487, 489, 491, 493] (by decide +kernel) (by decide +kernel)
theorem gX9 : ∀ w ∈ u_ws RX9 TX9 19, w ∈ gU := gIn [377, 379, 381, 383, 385, 387, 389, 391, 393, 395, 397, 399, 401, 403, 405, 407, 409, 411, 413] (by decide +kernel) (by decide +kernel)
set_option maxHeartbeats 4000000 in
set_option maxRecDepth 100000 in
theorem c_X11_boxOf (l : Launch) (dC : Nat → ClassId) (dI : Nat → Nat → Nat) (sz : Nat) (a : Int32) : Met l yX11_boxOf (Cond.code yX11_boxOf cX11_boxOf 1 (some .int) :: gU) ({ frames := 0, cells := 0, slots := 0, locals := 0 }) (gP dC dI sz [] [] [.int a]) (va_Qi (fun (r : Int32) (_ : Unit) => r = a / 4) (fun _ _ => True) (va_A [] sz)) 0 0 (va_A [] sz) := by
  refine Met.ofW (cc := cX11_boxOf) (maxL := 1) (ret := (some .int)) (by decide) rfl ?_
  intro p e s m args below meth c s₁ B hml hv
  obtain ⟨rfl, hsz, hP, hK, hD0, hE⟩ := hv
  have hx := B.exec
  have hb := B.bytes
  have hr := B.returns
  have hts0 := atoms_spec (ws := Cond.code yX11_boxOf cX11_boxOf 1 (some .int) :: gU) B.pre
  have hts : ∀ w ∈ gU, w.before _ s = true := fun w h => hts0 w (List.mem_cons_of_mem _ h)
  have hown : s.vm.findClass RX11 = some m.cls := findClass_of_methodNamed B.named
  have hlocks := B.notSynchronized
  subst hsz
  have hD := hD0
  generalize hAe : va_A [] s.heap.size = A at ⊢
  have hA : ∀ q : Nat, s.heap.size ≤ q → A q := fun q h => by rw [← hAe]; exact Or.inr h
  have hS : va_S A s.heap s.heap [] := va_S.rf
  have hP : va_P (dC, dI) vwCl [] s.heap := hP
  have hl := lv_entry ([.int a]) (n := 1) (Nat.le_of_ble_eq_true rfl)
  rw [lg_entry_eq]
  generalize (lg_sl ([.int a]) ++ List.replicate (1 - (lg_sl ([.int a])).length) Slot.unset).toArray = ls at hl ⊢
  have hl : lv_has ls 1 [(0, .int a)] := hl
  refine lv_iload_n hx hb dX11_boxOf_0 rfl (lv_at hl 0 rfl) ?_
  refine lv_iconst (v := 4) hx hb dX11_boxOf_1 (by decide) ?_
  refine lv_idiv hx hb dX11_boxOf_2 (by decide) ?_
  refine W.widen (k := 0) (n := 0) (Nat.le_of_ble_eq_true rfl) (Nat.le_of_ble_eq_true rfl) ?_
  exact W.iret (v := a / 4) hx hb hr (fun t ht hW => ⟨⟨a / 4, (), rfl, rfl, trivial⟩, hS.F ht⟩) hS.2.2 dX11_boxOf_3
set_option maxHeartbeats 4000000 in
set_option maxRecDepth 100000 in
theorem c_X11_ownNumber (l : Launch) (dC : Nat → ClassId) (dI : Nat → Nat → Nat) (sz : Nat) (a : Int32) : Met l yX11_ownNumber (Cond.code yX11_ownNumber cX11_ownNumber 1 (some .int) :: gU) ({ frames := 0, cells := 0, slots := 0, locals := 0 }) (gP dC dI sz [] [] [.int a]) (va_Qi (fun (r : Int32) (_ : Unit) => r = a - a / 4 * 4) (fun _ _ => True) (va_A [] sz)) 0 0 (va_A [] sz) := by
  refine Met.ofW (cc := cX11_ownNumber) (maxL := 1) (ret := (some .int)) (by decide) rfl ?_
  intro p e s m args below meth c s₁ B hml hv
  obtain ⟨rfl, hsz, hP, hK, hD0, hE⟩ := hv
  have hx := B.exec
  have hb := B.bytes
  have hr := B.returns
  have hts0 := atoms_spec (ws := Cond.code yX11_ownNumber cX11_ownNumber 1 (some .int) :: gU) B.pre
  have hts : ∀ w ∈ gU, w.before _ s = true := fun w h => hts0 w (List.mem_cons_of_mem _ h)
  have hown : s.vm.findClass RX11 = some m.cls := findClass_of_methodNamed B.named
  have hlocks := B.notSynchronized
  subst hsz
  have hD := hD0
  generalize hAe : va_A [] s.heap.size = A at ⊢
  have hA : ∀ q : Nat, s.heap.size ≤ q → A q := fun q h => by rw [← hAe]; exact Or.inr h
  have hS : va_S A s.heap s.heap [] := va_S.rf
  have hP : va_P (dC, dI) vwCl [] s.heap := hP
  have hl := lv_entry ([.int a]) (n := 1) (Nat.le_of_ble_eq_true rfl)
  rw [lg_entry_eq]
  generalize (lg_sl ([.int a]) ++ List.replicate (1 - (lg_sl ([.int a])).length) Slot.unset).toArray = ls at hl ⊢
  have hl : lv_has ls 1 [(0, .int a)] := hl
  refine lv_iload_n hx hb dX11_ownNumber_0 rfl (lv_at hl 0 rfl) ?_
  refine lv_iconst (v := 4) hx hb dX11_ownNumber_1 (by decide) ?_
  refine lv_irem hx hb dX11_ownNumber_2 (by decide) ?_
  refine W.widen (k := 0) (n := 0) (Nat.le_of_ble_eq_true rfl) (Nat.le_of_ble_eq_true rfl) ?_
  exact W.iret (v := a - a / 4 * 4) hx hb hr (fun t ht hW => ⟨⟨a - a / 4 * 4, (), rfl, rfl, trivial⟩, hS.F ht⟩) hS.2.2 dX11_ownNumber_3
set_option maxHeartbeats 4000000 in
set_option maxRecDepth 100000 in
theorem c_X10_kindOf (l : Launch) (dC : Nat → ClassId) (dI : Nat → Nat → Nat) (sz : Nat) (h0 : Nat) (kd : Nat) (gW : Nat → Nat) (a : Int32) : Met l yX10_kindOf (Cond.code yX10_kindOf cX10_kindOf 2 (some .int) :: gU) ({ frames := 0, cells := 0, slots := 0, locals := 0 }) (gP dC dI sz [(h0, .inr (10, oW kd gW 0 0))] [] [.ref h0, .int a]) (va_Qi (fun (r : Int32) (_ : Unit) => r = (-1)) (fun _ _ => True) (va_A [] sz)) 0 0 (va_A [] sz) := by
  refine Met.ofW (cc := cX10_kindOf) (maxL := 2) (ret := (some .int)) (by decide) rfl ?_
  intro p e s m args below meth c s₁ B hml hv
  obtain ⟨rfl, hsz, hP, hK, hD0, hE⟩ := hv
  have hx := B.exec
  have hb := B.bytes
  have hr := B.returns
  have hts0 := atoms_spec (ws := Cond.code yX10_kindOf cX10_kindOf 2 (some .int) :: gU) B.pre
  have hts : ∀ w ∈ gU, w.before _ s = true := fun w h => hts0 w (List.mem_cons_of_mem _ h)
  have hown : s.vm.findClass RX10 = some m.cls := findClass_of_methodNamed B.named
  have hlocks := B.notSynchronized
  subst hsz
  have hD := hD0
  generalize hAe : va_A [] s.heap.size = A at ⊢
  have hA : ∀ q : Nat, s.heap.size ≤ q → A q := fun q h => by rw [← hAe]; exact Or.inr h
  have hS : va_S A s.heap s.heap [] := va_S.rf
  have hP : va_P (dC, dI) vwCl [(h0, .inr (10, oW kd gW 0 0))] s.heap := hP
  have hl := lv_entry ([.ref h0, .int a]) (n := 2) (Nat.le_of_ble_eq_true rfl)
  rw [lg_entry_eq]
  generalize (lg_sl ([.ref h0, .int a]) ++ List.replicate (2 - (lg_sl ([.ref h0, .int a])).length) Slot.unset).toArray = ls at hl ⊢
  have hl : lv_has ls 2 [(0, .ref h0), (1, .int a)] := hl
  refine lv_iload_n hx hb dX10_kindOf_0 rfl (lv_at hl 1 rfl) ?_
  refine lv_if_lt (tgt := 21) hx hb dX10_kindOf_1 (by decide) (fun h1 => ?_) (fun h1 => ?_)
  · refine lv_iconst (v := (-1)) hx hb dX10_kindOf_21 (by decide) ?_
    refine W.widen (k := 0) (n := 0) (Nat.le_of_ble_eq_true rfl) (Nat.le_of_ble_eq_true rfl) ?_
    exact W.iret (v := (-1)) hx hb hr (fun t ht hW => ⟨⟨(-1), (), rfl, rfl, trivial⟩, hS.F ht⟩) hS.2.2 dX10_kindOf_22
  · refine lv_iload_n hx hb dX10_kindOf_4 rfl (lv_at hl 1 rfl) ?_
    refine lv_aload_n hx hb dX10_kindOf_5 rfl (lv_at hl 0 rfl) ?_
    refine va_get (D := (dC, dI)) (ci := 10) (v := .int 0) (C := RX10) (T := TX10) (N := 11) hx hb hts gX10 hown hK hP 0 rfl rfl 0 (by decide) (hts _ u_40) (fun _ h9 => h9) rfl dX10_kindOf_6 ?_
    refine lv_icmp_ge (tgt := 21) hx hb dX10_kindOf_9 (by decide) (fun _ => ?_) (fun h9 => absurd (i_nlt h1) h9)
    refine lv_iconst (v := (-1)) hx hb dX10_kindOf_21 (by decide) ?_
    refine W.widen (k := 0) (n := 0) (Nat.le_of_ble_eq_true rfl) (Nat.le_of_ble_eq_true rfl) ?_
    exact W.iret (v := (-1)) hx hb hr (fun t ht hW => ⟨⟨(-1), (), rfl, rfl, trivial⟩, hS.F ht⟩) hS.2.2 dX10_kindOf_22
set_option maxHeartbeats 4000000 in
set_option maxRecDepth 100000 in
theorem c_X10_hasBox (l : Launch) (dC : Nat → ClassId) (dI : Nat → Nat → Nat) (sz : Nat) (h0 : Nat) (kd : Nat) (gW : Nat → Nat) (a : Int32) : Met l yX10_hasBox (Cond.code yX10_hasBox cX10_hasBox 2 (some .boolean) :: gU) ({ frames := 0, cells := 0, slots := 0, locals := 0 }) (gP dC dI sz [(h0, .inr (10, oW kd gW 0 0))] [] [.ref h0, .int a]) (va_Qi (fun (r : Int32) (_ : Unit) => r = 0) (fun _ _ => True) (va_A [] sz)) 0 0 (va_A [] sz) := by
  refine Met.ofW (cc := cX10_hasBox) (maxL := 2) (ret := (some .boolean)) (by decide) rfl ?_
  intro p e s m args below meth c s₁ B hml hv
  obtain ⟨rfl, hsz, hP, hK, hD0, hE⟩ := hv
  have hx := B.exec
  have hb := B.bytes
  have hr := B.returns
  have hts0 := atoms_spec (ws := Cond.code yX10_hasBox cX10_hasBox 2 (some .boolean) :: gU) B.pre
  have hts : ∀ w ∈ gU, w.before _ s = true := fun w h => hts0 w (List.mem_cons_of_mem _ h)
  have hown : s.vm.findClass RX10 = some m.cls := findClass_of_methodNamed B.named
  have hlocks := B.notSynchronized
  subst hsz
  have hD := hD0
  generalize hAe : va_A [] s.heap.size = A at ⊢
  have hA : ∀ q : Nat, s.heap.size ≤ q → A q := fun q h => by rw [← hAe]; exact Or.inr h
  have hS : va_S A s.heap s.heap [] := va_S.rf
  have hP : va_P (dC, dI) vwCl [(h0, .inr (10, oW kd gW 0 0))] s.heap := hP
  have hl := lv_entry ([.ref h0, .int a]) (n := 2) (Nat.le_of_ble_eq_true rfl)
  rw [lg_entry_eq]
  generalize (lg_sl ([.ref h0, .int a]) ++ List.replicate (2 - (lg_sl ([.ref h0, .int a])).length) Slot.unset).toArray = ls at hl ⊢
  have hl : lv_has ls 2 [(0, .ref h0), (1, .int a)] := hl
  refine lv_iload_n hx hb dX10_hasBox_0 rfl (lv_at hl 1 rfl) ?_
  refine lv_if_lt (tgt := 16) hx hb dX10_hasBox_1 (by decide) (fun h1 => ?_) (fun h1 => ?_)
  · refine lv_iconst (v := 0) hx hb dX10_hasBox_16 (by decide) ?_
    refine W.widen (k := 0) (n := 0) (Nat.le_of_ble_eq_true rfl) (Nat.le_of_ble_eq_true rfl) ?_
    exact W.zret (v := 0) hx hb hr (by decide) (fun t ht hW => ⟨⟨0, (), rfl, rfl, trivial⟩, hS.F ht⟩) hS.2.2 dX10_hasBox_17
  · refine lv_iload_n hx hb dX10_hasBox_4 rfl (lv_at hl 1 rfl) ?_
    refine lv_aload_n hx hb dX10_hasBox_5 rfl (lv_at hl 0 rfl) ?_
    refine va_get (D := (dC, dI)) (ci := 10) (v := .int 0) (C := RX10) (T := TX10) (N := 11) hx hb hts gX10 hown hK hP 0 rfl rfl 0 (by decide) (hts _ u_40) (fun _ h9 => h9) rfl dX10_hasBox_6 ?_
    refine lv_icmp_ge (tgt := 16) hx hb dX10_hasBox_9 (by decide) (fun _ => ?_) (fun h9 => absurd (i_nlt h1) h9)
    refine lv_iconst (v := 0) hx hb dX10_hasBox_16 (by decide) ?_
    refine W.widen (k := 0) (n := 0) (Nat.le_of_ble_eq_true rfl) (Nat.le_of_ble_eq_true rfl) ?_
    exact W.zret (v := 0) hx hb hr (by decide) (fun t ht hW => ⟨⟨0, (), rfl, rfl, trivial⟩, hS.F ht⟩) hS.2.2 dX10_hasBox_17
set_option maxHeartbeats 4000000 in
set_option maxRecDepth 100000 in
theorem c_X10_hasPort (l : Launch) (dC : Nat → ClassId) (dI : Nat → Nat → Nat) (sz : Nat) (h0 : Nat) (kd : Nat) (gW : Nat → Nat) (a : Int32) : Met l yX10_hasPort (Cond.code yX10_hasPort cX10_hasPort 4 (some .boolean) :: gU) ({ frames := 1, cells := 0, slots := 0, locals := 21 }) (gP dC dI sz [(h0, .inr (10, oW kd gW 0 0))] [] [.ref h0, .int a]) (va_Qi (fun (r : Int32) (_ : Unit) => r = 0) (fun _ _ => True) (va_A [] sz)) 0 0 (va_A [] sz) := by
  refine Met.ofW (cc := cX10_hasPort) (maxL := 4) (ret := (some .boolean)) (by decide) rfl ?_
  intro p e s m args below meth c s₁ B hml hv
  obtain ⟨rfl, hsz, hP, hK, hD0, hE⟩ := hv
  have hx := B.exec
  have hb := B.bytes
  have hr := B.returns
  have hts0 := atoms_spec (ws := Cond.code yX10_hasPort cX10_hasPort 4 (some .boolean) :: gU) B.pre
  have hts : ∀ w ∈ gU, w.before _ s = true := fun w h => hts0 w (List.mem_cons_of_mem _ h)
  have hown : s.vm.findClass RX10 = some m.cls := findClass_of_methodNamed B.named
  have hlocks := B.notSynchronized
  subst hsz
  have hD := hD0
  generalize hAe : va_A [] s.heap.size = A at ⊢
  have hA : ∀ q : Nat, s.heap.size ≤ q → A q := fun q h => by rw [← hAe]; exact Or.inr h
  have hS : va_S A s.heap s.heap [] := va_S.rf
  have hP : va_P (dC, dI) vwCl [(h0, .inr (10, oW kd gW 0 0))] s.heap := hP
  have hl := lv_entry ([.ref h0, .int a]) (n := 4) (Nat.le_of_ble_eq_true rfl)
  rw [lg_entry_eq]
  generalize (lg_sl ([.ref h0, .int a]) ++ List.replicate (4 - (lg_sl ([.ref h0, .int a])).length) Slot.unset).toArray = ls at hl ⊢
  have hl : lv_has ls 4 [(0, .ref h0), (1, .int a)] := hl
  refine lv_iload_n hx hb dX10_hasPort_0 rfl (lv_at hl 1 rfl) ?_
  refine lv_if_ge (tgt := 6) hx hb dX10_hasPort_1 (by decide) (fun h1 => ?_) (fun h1 => ?_)
  · refine lv_aload_n hx hb dX10_hasPort_6 rfl (lv_at hl 0 rfl) ?_
    refine lv_iload_n hx hb dX10_hasPort_7 rfl (lv_at hl 1 rfl) ?_
    have hPc := hP.sub (ws' := []) [] rfl
    have hDc := hD.sub (ws' := []) [] (by decide) rfl
    have hKc := hK.sub (tys' := []) [] rfl
    have hFc := roF hS hA
    refine va_calli (va_runSN (As := [.int a]) (rest := [.ref h0]) ⟨hx, hb, hml, hown, hts⟩ (c_X11_boxOf l dC dI s.heap.size a) ⟨va_cnB 1 hts (gC u_621) rfl rfl rfl (hE.1 _ n_5) (hts _ u_1) (by decide +kernel) ⟨Nat.le_of_ble_eq_true rfl, Nat.le_of_ble_eq_true rfl⟩, hts _ u_620, trivial⟩ ⟨gP_blind, gP_call hPc hKc hDc hE⟩ rfl rfl hl.1 rfl (lv_room (Nat.le_of_ble_eq_true rfl)) dX10_hasPort_8 ⟨(Nat.le_of_ble_eq_true rfl), (Nat.le_of_ble_eq_true rfl)⟩) hS (fun q _ h => hFc q h) hFc (fun r2 u9 t9 H1 locs ht hvm hw hB hz1 hk1 hS => ?_)
    have hP := roP hP hk1
    subst hw
    have hPc := hP.sub (ws' := [(h0, .inr (10, oW kd gW 0 0))]) [0] rfl
    have hDc := hD.sub (ws' := [(h0, .inr (10, oW kd gW 0 0))]) [0] (by decide) rfl
    have hKc := hK.sub (tys' := []) [] rfl
    have hFc := roF hS hA
    refine va_calli (va_runV (As := [.int (a / 4)]) (rest := []) ⟨hx, hb, hml, hown, hts⟩ (c_X10_kindOf l dC dI H1.size h0 kd gW (a / 4)) (cwV 1 hts (gV u_622 u_623 u_624 u_2 u_625) rfl rfl rfl (by decide +kernel) ⟨Nat.le_of_ble_eq_true rfl, Nat.le_of_ble_eq_true rfl⟩) ⟨gP_blind, va_recv hKc hPc (ci := 10) (q0 := 0) rfl rfl, gP_call hPc hKc hDc hE⟩ rfl rfl hl.1 rfl (lv_room (Nat.le_of_ble_eq_true rfl)) dX10_hasPort_11 ⟨(Nat.le_of_ble_eq_true rfl), (Nat.le_of_ble_eq_true rfl)⟩) hS (fun q _ h => hFc q h) hFc (fun r4 u9 t9 H3 locs ht hvm hw hB hz1 hk1 hS => ?_)
    have hP := roP hP hk1
    subst hw
    refine lv_istore_n (lv' := [(2, .int (-1)), (0, .ref h0), (1, .int a)]) hx hb dX10_hasPort_14 rfl hl (by decide) rfl (fun ls hl => ?_)
    refine lv_iload_n hx hb dX10_hasPort_15 rfl (lv_at hl 0 rfl) ?_
    refine lv_if_ne (tgt := 23) hx hb dX10_hasPort_16 (by decide) (fun _ => ?_) (fun h9 => absurd h9 (by decide))
    refine lv_iload_n hx hb dX10_hasPort_23 rfl (lv_at hl 0 rfl) ?_
    refine lv_iconst (v := 2) hx hb dX10_hasPort_24 (by decide) ?_
    refine lv_icmp_ne (tgt := 32) hx hb dX10_hasPort_25 (by decide) (fun _ => ?_) (fun h9 => absurd h9 (by decide))
    refine lv_iload_n hx hb dX10_hasPort_32 rfl (lv_at hl 0 rfl) ?_
    refine lv_iconst (v := 1) hx hb dX10_hasPort_33 (by decide) ?_
    refine lv_icmp_ne (tgt := 41) hx hb dX10_hasPort_34 (by decide) (fun _ => ?_) (fun h9 => absurd h9 (by decide))
    refine lv_iconst (v := 0) hx hb dX10_hasPort_41 (by decide) ?_
    refine lv_istore_n (lv' := [(3, .int 0), (2, .int (-1)), (0, .ref h0), (1, .int a)]) hx hb dX10_hasPort_42 rfl hl (by decide) rfl (fun ls hl => ?_)
    refine lv_iload_n hx hb dX10_hasPort_43 rfl (lv_at hl 3 rfl) ?_
    have hPc := hP.sub (ws' := []) [] rfl
    have hDc := hD.sub (ws' := []) [] (by decide) rfl
    have hKc := hK.sub (tys' := []) [] rfl
    have hFc := roF hS hA
    refine va_calli (va_runSN (As := [.int a]) (rest := []) ⟨hx, hb, hml, hown, hts⟩ (c_X11_ownNumber l dC dI H3.size a) ⟨va_cnB 1 hts (gC u_628) rfl rfl rfl (hE.1 _ n_6) (hts _ u_1) (by decide +kernel) ⟨Nat.le_of_ble_eq_true rfl, Nat.le_of_ble_eq_true rfl⟩, hts _ u_627, trivial⟩ ⟨gP_blind, gP_call hPc hKc hDc hE⟩ rfl rfl hl.1 rfl (lv_room (Nat.le_of_ble_eq_true rfl)) dX10_hasPort_44 ⟨(Nat.le_of_ble_eq_true rfl), (Nat.le_of_ble_eq_true rfl)⟩) hS (fun q _ h => hFc q h) hFc (fun r6 u9 t9 H5 locs ht hvm hw hB hz1 hk1 hS => ?_)
    have hP := roP hP hk1
    subst hw
    refine lv_iload_n hx hb dX10_hasPort_47 rfl (lv_at hl 0 rfl) ?_
    refine lv_icmp_ge (tgt := 55) hx hb dX10_hasPort_48 (by decide) (fun _ => ?_) (fun h9 => absurd (own_ge h1) h9)
    refine lv_iconst (v := 0) hx hb dX10_hasPort_55 (by decide) ?_
    refine W.widen (k := 0) (n := 0) (Nat.le_of_ble_eq_true rfl) (Nat.le_of_ble_eq_true rfl) ?_
    exact W.zret (v := 0) hx hb hr (by decide) (fun t ht hW => ⟨⟨0, (), rfl, rfl, trivial⟩, hS.F ht⟩) hS.2.2 dX10_hasPort_56
  · refine lv_iconst (v := 0) hx hb dX10_hasPort_4 (by decide) ?_
    refine W.widen (k := 0) (n := 0) (Nat.le_of_ble_eq_true rfl) (Nat.le_of_ble_eq_true rfl) ?_
    exact W.zret (v := 0) hx hb hr (by decide) (fun t ht hW => ⟨⟨0, (), rfl, rfl, trivial⟩, hS.F ht⟩) hS.2.2 dX10_hasPort_5
set_option maxHeartbeats 4000000 in
set_option maxRecDepth 100000 in
theorem c_X10_isStation (l : Launch) (dC : Nat → ClassId) (dI : Nat → Nat → Nat) (sz : Nat) (h0 : Nat) (kd : Nat) (gW : Nat → Nat) (a : Int32) : Met l yX10_isStation (Cond.code yX10_isStation cX10_isStation 2 (some .boolean) :: gU) ({ frames := 2, cells := 0, slots := 0, locals := 44 }) (gP dC dI sz [(h0, .inr (10, oW kd gW 0 0))] [] [.ref h0, .int a]) (va_Qi (fun (r : Int32) (_ : Unit) => r = 0) (fun _ _ => True) (va_A [] sz)) 0 0 (va_A [] sz) := by
  refine Met.ofW (cc := cX10_isStation) (maxL := 2) (ret := (some .boolean)) (by decide) rfl ?_
  intro p e s m args below meth c s₁ B hml hv
  obtain ⟨rfl, hsz, hP, hK, hD0, hE⟩ := hv
  have hx := B.exec
  have hb := B.bytes
  have hr := B.returns
  have hts0 := atoms_spec (ws := Cond.code yX10_isStation cX10_isStation 2 (some .boolean) :: gU) B.pre
  have hts : ∀ w ∈ gU, w.before _ s = true := fun w h => hts0 w (List.mem_cons_of_mem _ h)
  have hown : s.vm.findClass RX10 = some m.cls := findClass_of_methodNamed B.named
  have hlocks := B.notSynchronized
  subst hsz
  have hD := hD0
  generalize hAe : va_A [] s.heap.size = A at ⊢
  have hA : ∀ q : Nat, s.heap.size ≤ q → A q := fun q h => by rw [← hAe]; exact Or.inr h
  have hS : va_S A s.heap s.heap [] := va_S.rf
  have hP : va_P (dC, dI) vwCl [(h0, .inr (10, oW kd gW 0 0))] s.heap := hP
  have hl := lv_entry ([.ref h0, .int a]) (n := 2) (Nat.le_of_ble_eq_true rfl)
  rw [lg_entry_eq]
  generalize (lg_sl ([.ref h0, .int a]) ++ List.replicate (2 - (lg_sl ([.ref h0, .int a])).length) Slot.unset).toArray = ls at hl ⊢
  have hl : lv_has ls 2 [(0, .ref h0), (1, .int a)] := hl
  refine lv_aload_n hx hb dX10_isStation_0 rfl (lv_at hl 0 rfl) ?_
  refine lv_iload_n hx hb dX10_isStation_1 rfl (lv_at hl 1 rfl) ?_
  have hPc := hP.sub (ws' := [(h0, .inr (10, oW kd gW 0 0))]) [0] rfl
  have hDc := hD.sub (ws' := [(h0, .inr (10, oW kd gW 0 0))]) [0] (by decide) rfl
  have hKc := hK.sub (tys' := []) [] rfl
  have hFc := roF hS hA
  refine va_calli (va_runV (As := [.int a]) (rest := []) ⟨hx, hb, hml, hown, hts⟩ (c_X10_hasPort l dC dI s.heap.size h0 kd gW a) (cwV 1 hts (gV u_732 u_616 u_617 u_2 u_618) rfl rfl rfl (by decide +kernel) ⟨Nat.le_of_ble_eq_true rfl, Nat.le_of_ble_eq_true rfl⟩) ⟨gP_blind, va_recv hKc hPc (ci := 10) (q0 := 0) rfl rfl, gP_call hPc hKc hDc hE⟩ rfl rfl hl.1 rfl (lv_room (Nat.le_of_ble_eq_true rfl)) dX10_isStation_2 ⟨(Nat.le_of_ble_eq_true rfl), (Nat.le_of_ble_eq_true rfl)⟩) hS (fun q _ h => hFc q h) hFc (fun r8 u9 t9 H7 locs ht hvm hw hB hz1 hk1 hS => ?_)
  have hP := roP hP hk1
  subst hw
  refine lv_if_eq (tgt := 24) hx hb dX10_isStation_5 (by decide) (fun _ => ?_) (fun h9 => absurd (by decide) h9)
  refine lv_iconst (v := 0) hx hb dX10_isStation_24 (by decide) ?_
  refine W.widen (k := 0) (n := 0) (Nat.le_of_ble_eq_true rfl) (Nat.le_of_ble_eq_true rfl) ?_
  exact W.zret (v := 0) hx hb hr (by decide) (fun t ht hW => ⟨⟨0, (), rfl, rfl, trivial⟩, hS.F ht⟩) hS.2.2 dX10_isStation_25
set_option maxHeartbeats 4000000 in
set_option maxRecDepth 100000 in
theorem c_X11_needBox (l : Launch) (dC : Nat → ClassId) (dI : Nat → Nat → Nat) (sz : Nat) (hfl : l.stackTraces = false) (h0 : Nat) (w : Nat) (sg : Nat) (ro : Nat) (tr : Nat) (gX : Nat → Nat) (kd : Nat) (gW : Nat → Nat) (a0 : Int32) : vx_Met l yX11_needBox (Cond.code yX11_needBox cX11_needBox 2 none :: gU) ({ frames := 6, cells := 1, slots := 6, locals := 82 }) (gPZ dC dI sz [(h0, .inr (11, oX w sg ro tr gX)), (w, .inr (10, oW kd gW 0 0))] [] (va_A [] sz) [.ref h0, .int a0]) (va_Qv (fun (_ : Unit) => False) (fun _ _ => True) (va_A [] sz)) (vx_X (fun _ : Unit => True) (fun E9 _ _ => E9 = "java/lang/IndexOutOfBoundsException") (va_A [] sz)) 1 6 (va_A [] sz) := by
  refine vx_ofW (cc := cX11_needBox) (maxL := 2) (ret := none) (by decide) rfl ?_
  intro p e s m args below meth c s₁ B hml ht0 hv
  obtain ⟨rfl, hsz, hP, hK, hD0, hE, hZ⟩ := hv
  have hx := B.exec
  have hb := B.bytes
  have hr := B.returns
  have hts0 := atoms_spec (ws := Cond.code yX11_needBox cX11_needBox 2 none :: gU) B.pre
  have hts : ∀ w ∈ gU, w.before _ s = true := fun w h => hts0 w (List.mem_cons_of_mem _ h)
  have hown : s.vm.findClass RX11 = some m.cls := findClass_of_methodNamed B.named
  have hlocks := B.notSynchronized
  subst hsz
  have hD := hD0
  generalize hAe : va_A [] s.heap.size = A at hZ ⊢
  have hA : ∀ q : Nat, s.heap.size ≤ q → A q := fun q h => by rw [← hAe]; exact Or.inr h
  have hS : va_S A s.heap s.heap [] := va_S.rf
  have hP : va_P (dC, dI) vwCl [(h0, .inr (11, oX w sg ro tr gX)), (w, .inr (10, oW kd gW 0 0))] s.heap := hP
  have hl := lv_entry ([.ref h0, .int a0]) (n := 2) (Nat.le_of_ble_eq_true rfl)
  rw [lg_entry_eq]
  generalize (lg_sl ([.ref h0, .int a0]) ++ List.replicate (2 - (lg_sl ([.ref h0, .int a0])).length) Slot.unset).toArray = ls at hl ⊢
  have hl : lv_has ls 2 [(0, .ref h0), (1, .int a0)] := hl
  refine lv_aload_n hx hb dX11_needBox_0 rfl (lv_at hl 0 rfl) ?_
  refine va_get (D := (dC, dI)) (ci := 11) (v := .ref w) (C := RX11) (T := TX11) (N := 7) hx hb hts gX11 hown hK hP 0 rfl rfl 0 (by decide) (hts _ u_474) (fun _ h9 => h9) rfl dX11_needBox_1 ?_
  refine lv_iload_n hx hb dX11_needBox_4 rfl (lv_at hl 1 rfl) ?_
  have hPc := hP.sub (ws' := [(w, .inr (10, oW kd gW 0 0))]) [1] rfl
  have hDc := hD.sub (ws' := [(w, .inr (10, oW kd gW 0 0))]) [1] (by decide) rfl
  have hKc := hK.sub (tys' := []) [] rfl
  have hFc := roF hS hA
  refine va_calli (va_runV (As := [.int a0]) (rest := []) ⟨hx, hb, hml, hown, hts⟩ (c_X10_hasBox l dC dI s.heap.size w kd gW a0) (cwV 1 hts (gV u_786 u_787 u_788 u_2 u_789) rfl rfl rfl (by decide +kernel) ⟨Nat.le_of_ble_eq_true rfl, Nat.le_of_ble_eq_true rfl⟩) ⟨gP_blind, va_recv hKc hPc (ci := 10) (q0 := 0) rfl rfl, gP_call hPc hKc hDc hE⟩ rfl rfl hl.1 rfl (lv_room (Nat.le_of_ble_eq_true rfl)) dX11_needBox_5 ⟨(Nat.le_of_ble_eq_true rfl), (Nat.le_of_ble_eq_true rfl)⟩) hS (fun q _ h => hFc q h) hFc (fun r10 u9 t9 H9 locs ht hvm hw hB hz1 hk1 hS => ?_)
  have hP := roP hP hk1
  subst hw
  refine lv_if_ne (tgt := 21) hx hb dX11_needBox_8 (by decide) (fun h9 => absurd (by decide) h9) (fun _ => ?_)
  obtain ⟨sa9, hstr⟩ := hE.2.2.2.2.2.1
  exact vx_throwS (own := RX11) (A := A) (cls := "java/lang/IndexOutOfBoundsException") (text := "no such box") (names := ["java/lang/RuntimeException", "java/lang/Exception"]) hx hb hfl hown (by decide +kernel) (by decide +kernel) (hts _ u_629) (hts _ u_20) hstr (vx_hat (B := gN) (fun w hw => hts w (thrI0 w hw)) thrI1 (fun w hw => va_Nw.use (gN_ot w hw) (hE.1 w hw))) thrI2 hZ.1 hZ.2 hS (by rw [hml]; exact hl.1) dX11_needBox_11 dX11_needBox_14 dX11_needBox_15 dX11_needBox_17 dX11_needBox_20 (fun x h => (ht0 x h).elim) (Nat.le_of_ble_eq_true rfl) (Nat.le_of_ble_eq_true rfl) (Nat.le_of_ble_eq_true rfl) (Nat.le_of_ble_eq_true rfl) hlocks (fun t _ k1 k2 => ⟨(), trivial, rfl, ⟨Nat.le_trans hS.1 k1, fun q hq hn => (k2 q (Nat.lt_of_lt_of_le hq hS.1)).trans (hS.2.1 q hq hn)⟩⟩) hS.2.2 (Nat.le_of_ble_eq_true rfl) (Nat.le_of_ble_eq_true rfl)
set_option maxHeartbeats 4000000 in
set_option maxRecDepth 100000 in
theorem c_X11_needPort (l : Launch) (dC : Nat → ClassId) (dI : Nat → Nat → Nat) (sz : Nat) (hfl : l.stackTraces = false) (h0 : Nat) (w : Nat) (sg : Nat) (ro : Nat) (tr : Nat) (gX : Nat → Nat) (kd : Nat) (gW : Nat → Nat) (a0 : Int32) : vx_Met l yX11_needPort (Cond.code yX11_needPort cX11_needPort 2 none :: gU) ({ frames := 6, cells := 1, slots := 6, locals := 82 }) (gPZ dC dI sz [(h0, .inr (11, oX w sg ro tr gX)), (w, .inr (10, oW kd gW 0 0))] [] (va_A [] sz) [.ref h0, .int a0]) (va_Qv (fun (_ : Unit) => False) (fun _ _ => True) (va_A [] sz)) (vx_X (fun _ : Unit => True) (fun E9 _ _ => E9 = "java/lang/IndexOutOfBoundsException") (va_A [] sz)) 1 6 (va_A [] sz) := by
  refine vx_ofW (cc := cX11_needPort) (maxL := 2) (ret := none) (by decide) rfl ?_
  intro p e s m args below meth c s₁ B hml ht0 hv
  obtain ⟨rfl, hsz, hP, hK, hD0, hE, hZ⟩ := hv
  have hx := B.exec
  have hb := B.bytes
  have hr := B.returns
  have hts0 := atoms_spec (ws := Cond.code yX11_needPort cX11_needPort 2 none :: gU) B.pre
  have hts : ∀ w ∈ gU, w.before _ s = true := fun w h => hts0 w (List.mem_cons_of_mem _ h)
  have hown : s.vm.findClass RX11 = some m.cls := findClass_of_methodNamed B.named
  have hlocks := B.notSynchronized
  subst hsz
  have hD := hD0
  generalize hAe : va_A [] s.heap.size = A at hZ ⊢
  have hA : ∀ q : Nat, s.heap.size ≤ q → A q := fun q h => by rw [← hAe]; exact Or.inr h
  have hS : va_S A s.heap s.heap [] := va_S.rf
  have hP : va_P (dC, dI) vwCl [(h0, .inr (11, oX w sg ro tr gX)), (w, .inr (10, oW kd gW 0 0))] s.heap := hP
  have hl := lv_entry ([.ref h0, .int a0]) (n := 2) (Nat.le_of_ble_eq_true rfl)
  rw [lg_entry_eq]
  generalize (lg_sl ([.ref h0, .int a0]) ++ List.replicate (2 - (lg_sl ([.ref h0, .int a0])).length) Slot.unset).toArray = ls at hl ⊢
  have hl : lv_has ls 2 [(0, .ref h0), (1, .int a0)] := hl
  refine lv_aload_n hx hb dX11_needPort_0 rfl (lv_at hl 0 rfl) ?_
  refine va_get (D := (dC, dI)) (ci := 11) (v := .ref w) (C := RX11) (T := TX11) (N := 7) hx hb hts gX11 hown hK hP 0 rfl rfl 0 (by decide) (hts _ u_474) (fun _ h9 => h9) rfl dX11_needPort_1 ?_
  refine lv_iload_n hx hb dX11_needPort_4 rfl (lv_at hl 1 rfl) ?_
  have hPc := hP.sub (ws' := [(w, .inr (10, oW kd gW 0 0))]) [1] rfl
  have hDc := hD.sub (ws' := [(w, .inr (10, oW kd gW 0 0))]) [1] (by decide) rfl
  have hKc := hK.sub (tys' := []) [] rfl
  have hFc := roF hS hA
  refine va_calli (va_runV (As := [.int a0]) (rest := []) ⟨hx, hb, hml, hown, hts⟩ (c_X10_hasPort l dC dI s.heap.size w kd gW a0) (cwV 1 hts (gV u_615 u_616 u_617 u_2 u_618) rfl rfl rfl (by decide +kernel) ⟨Nat.le_of_ble_eq_true rfl, Nat.le_of_ble_eq_true rfl⟩) ⟨gP_blind, va_recv hKc hPc (ci := 10) (q0 := 0) rfl rfl, gP_call hPc hKc hDc hE⟩ rfl rfl hl.1 rfl (lv_room (Nat.le_of_ble_eq_true rfl)) dX11_needPort_5 ⟨(Nat.le_of_ble_eq_true rfl), (Nat.le_of_ble_eq_true rfl)⟩) hS (fun q _ h => hFc q h) hFc (fun r12 u9 t9 H11 locs ht hvm hw hB hz1 hk1 hS => ?_)
  have hP := roP hP hk1
  subst hw
  refine lv_if_ne (tgt := 21) hx hb dX11_needPort_8 (by decide) (fun h9 => absurd (by decide) h9) (fun _ => ?_)
  obtain ⟨sa9, hstr⟩ := hE.2.2.2.2.2.2.1
  exact vx_throwS (own := RX11) (A := A) (cls := "java/lang/IndexOutOfBoundsException") (text := "no such port") (names := ["java/lang/RuntimeException", "java/lang/Exception"]) hx hb hfl hown (by decide +kernel) (by decide +kernel) (hts _ u_629) (hts _ u_20) hstr (vx_hat (B := gN) (fun w hw => hts w (thrI0 w hw)) thrI1 (fun w hw => va_Nw.use (gN_ot w hw) (hE.1 w hw))) thrI2 hZ.1 hZ.2 hS (by rw [hml]; exact hl.1) dX11_needPort_11 dX11_needPort_14 dX11_needPort_15 dX11_needPort_17 dX11_needPort_20 (fun x h => (ht0 x h).elim) (Nat.le_of_ble_eq_true rfl) (Nat.le_of_ble_eq_true rfl) (Nat.le_of_ble_eq_true rfl) (Nat.le_of_ble_eq_true rfl) hlocks (fun t _ k1 k2 => ⟨(), trivial, rfl, ⟨Nat.le_trans hS.1 k1, fun q hq hn => (k2 q (Nat.lt_of_lt_of_le hq hS.1)).trans (hS.2.1 q hq hn)⟩⟩) hS.2.2 (Nat.le_of_ble_eq_true rfl) (Nat.le_of_ble_eq_true rfl)
set_option maxHeartbeats 4000000 in
set_option maxRecDepth 100000 in
theorem c_X11_needCable (l : Launch) (dC : Nat → ClassId) (dI : Nat → Nat → Nat) (sz : Nat) (hfl : l.stackTraces = false) (h0 : Nat) (w : Nat) (sg : Nat) (ro : Nat) (tr : Nat) (gX : Nat → Nat) (kd : Nat) (gW : Nat → Nat) (a0 : Int32) : vx_Met l yX11_needCable (Cond.code yX11_needCable cX11_needCable 2 none :: gU) ({ frames := 6, cells := 1, slots := 6, locals := 82 }) (gPZ dC dI sz [(h0, .inr (11, oX w sg ro tr gX)), (w, .inr (10, oW kd gW 0 0))] [] (va_A [] sz) [.ref h0, .int a0]) (va_Qv (fun (_ : Unit) => False) (fun _ _ => True) (va_A [] sz)) (vx_X (fun _ : Unit => True) (fun E9 _ _ => E9 = "java/lang/IndexOutOfBoundsException") (va_A [] sz)) 1 6 (va_A [] sz) := by
  refine vx_ofW (cc := cX11_needCable) (maxL := 2) (ret := none) (by decide) rfl ?_
  intro p e s m args below meth c s₁ B hml ht0 hv
  obtain ⟨rfl, hsz, hP, hK, hD0, hE, hZ⟩ := hv
  have hx := B.exec
  have hb := B.bytes
  have hr := B.returns
  have hts0 := atoms_spec (ws := Cond.code yX11_needCable cX11_needCable 2 none :: gU) B.pre
  have hts : ∀ w ∈ gU, w.before _ s = true := fun w h => hts0 w (List.mem_cons_of_mem _ h)
  have hown : s.vm.findClass RX11 = some m.cls := findClass_of_methodNamed B.named
  have hlocks := B.notSynchronized
  subst hsz
  have hD := hD0
  generalize hAe : va_A [] s.heap.size = A at hZ ⊢
  have hA : ∀ q : Nat, s.heap.size ≤ q → A q := fun q h => by rw [← hAe]; exact Or.inr h
  have hS : va_S A s.heap s.heap [] := va_S.rf
  have hP : va_P (dC, dI) vwCl [(h0, .inr (11, oX w sg ro tr gX)), (w, .inr (10, oW kd gW 0 0))] s.heap := hP
  have hl := lv_entry ([.ref h0, .int a0]) (n := 2) (Nat.le_of_ble_eq_true rfl)
  rw [lg_entry_eq]
  generalize (lg_sl ([.ref h0, .int a0]) ++ List.replicate (2 - (lg_sl ([.ref h0, .int a0])).length) Slot.unset).toArray = ls at hl ⊢
  have hl : lv_has ls 2 [(0, .ref h0), (1, .int a0)] := hl
  refine lv_iload_n hx hb dX11_needCable_0 rfl (lv_at hl 1 rfl) ?_
  refine lv_if_lt (tgt := 15) hx hb dX11_needCable_1 (by decide) (fun h1 => ?_) (fun h1 => ?_)
  · obtain ⟨sa9, hstr⟩ := hE.2.2.2.2.2.2.2.1
    exact vx_throwS (own := RX11) (A := A) (cls := "java/lang/IndexOutOfBoundsException") (text := "no such cable") (names := ["java/lang/RuntimeException", "java/lang/Exception"]) hx hb hfl hown (by decide +kernel) (by decide +kernel) (hts _ u_629) (hts _ u_20) hstr (vx_hat (B := gN) (fun w hw => hts w (thrI0 w hw)) thrI1 (fun w hw => va_Nw.use (gN_ot w hw) (hE.1 w hw))) thrI2 hZ.1 hZ.2 hS (by rw [hml]; exact hl.1) dX11_needCable_15 dX11_needCable_18 dX11_needCable_19 dX11_needCable_21 dX11_needCable_24 (fun x h => (ht0 x h).elim) (Nat.le_of_ble_eq_true rfl) (Nat.le_of_ble_eq_true rfl) (Nat.le_of_ble_eq_true rfl) (Nat.le_of_ble_eq_true rfl) hlocks (fun t _ k1 k2 => ⟨(), trivial, rfl, ⟨Nat.le_trans hS.1 k1, fun q hq hn => (k2 q (Nat.lt_of_lt_of_le hq hS.1)).trans (hS.2.1 q hq hn)⟩⟩) hS.2.2 (Nat.le_of_ble_eq_true rfl) (Nat.le_of_ble_eq_true rfl)
  · refine lv_iload_n hx hb dX11_needCable_4 rfl (lv_at hl 1 rfl) ?_
    refine lv_aload_n hx hb dX11_needCable_5 rfl (lv_at hl 0 rfl) ?_
    refine va_get (D := (dC, dI)) (ci := 11) (v := .ref w) (C := RX11) (T := TX11) (N := 7) hx hb hts gX11 hown hK hP 0 rfl rfl 0 (by decide) (hts _ u_474) (fun _ h9 => h9) rfl dX11_needCable_6 ?_
    refine va_getN (D := (dC, dI)) (ci := 10) (v := .int 0) (C := RX10) (T := TX10) (N := 11) hx hb hts gX10 hown hK hP 1 rfl rfl 1 (by decide) (va_Nw.use rfl (hE.1 _ n_0)) (fun _ h9 => h9) rfl dX11_needCable_9 ?_
    refine lv_icmp_lt (tgt := 25) hx hb dX11_needCable_12 (by decide) (fun h9 => absurd h9 h1) (fun _ => ?_)
    obtain ⟨sa9, hstr⟩ := hE.2.2.2.2.2.2.2.1
    exact vx_throwS (own := RX11) (A := A) (cls := "java/lang/IndexOutOfBoundsException") (text := "no such cable") (names := ["java/lang/RuntimeException", "java/lang/Exception"]) hx hb hfl hown (by decide +kernel) (by decide +kernel) (hts _ u_629) (hts _ u_20) hstr (vx_hat (B := gN) (fun w hw => hts w (thrI0 w hw)) thrI1 (fun w hw => va_Nw.use (gN_ot w hw) (hE.1 w hw))) thrI2 hZ.1 hZ.2 hS (by rw [hml]; exact hl.1) dX11_needCable_15 dX11_needCable_18 dX11_needCable_19 dX11_needCable_21 dX11_needCable_24 (fun x h => (ht0 x h).elim) (Nat.le_of_ble_eq_true rfl) (Nat.le_of_ble_eq_true rfl) (Nat.le_of_ble_eq_true rfl) (Nat.le_of_ble_eq_true rfl) hlocks (fun t _ k1 k2 => ⟨(), trivial, rfl, ⟨Nat.le_trans hS.1 k1, fun q hq hn => (k2 q (Nat.lt_of_lt_of_le hq hS.1)).trans (hS.2.1 q hq hn)⟩⟩) hS.2.2 (Nat.le_of_ble_eq_true rfl) (Nat.le_of_ble_eq_true rfl)
set_option maxHeartbeats 4000000 in
set_option maxRecDepth 100000 in
theorem c_X11_needPacket (l : Launch) (dC : Nat → ClassId) (dI : Nat → Nat → Nat) (sz : Nat) (hfl : l.stackTraces = false) (h0 : Nat) (w : Nat) (sg : Nat) (ro : Nat) (tr : Nat) (gX : Nat → Nat) (gT : Nat → Nat) (a0 : Int32) : vx_Met l yX11_needPacket (Cond.code yX11_needPacket cX11_needPacket 2 none :: gU) ({ frames := 6, cells := 1, slots := 6, locals := 82 }) (gPZ dC dI sz [(h0, .inr (11, oX w sg ro tr gX)), (tr, .inr (9, oT w sg ro gT 0 0 0 0))] [] (va_A [] sz) [.ref h0, .int a0]) (va_Qv (fun (_ : Unit) => False) (fun _ _ => True) (va_A [] sz)) (vx_X (fun _ : Unit => True) (fun E9 _ _ => E9 = "java/lang/IndexOutOfBoundsException") (va_A [] sz)) 1 6 (va_A [] sz) := by
  refine vx_ofW (cc := cX11_needPacket) (maxL := 2) (ret := none) (by decide) rfl ?_
  intro p e s m args below meth c s₁ B hml ht0 hv
  obtain ⟨rfl, hsz, hP, hK, hD0, hE, hZ⟩ := hv
  have hx := B.exec
  have hb := B.bytes
  have hr := B.returns
  have hts0 := atoms_spec (ws := Cond.code yX11_needPacket cX11_needPacket 2 none :: gU) B.pre
  have hts : ∀ w ∈ gU, w.before _ s = true := fun w h => hts0 w (List.mem_cons_of_mem _ h)
  have hown : s.vm.findClass RX11 = some m.cls := findClass_of_methodNamed B.named
  have hlocks := B.notSynchronized
  subst hsz
  have hD := hD0
  generalize hAe : va_A [] s.heap.size = A at hZ ⊢
  have hA : ∀ q : Nat, s.heap.size ≤ q → A q := fun q h => by rw [← hAe]; exact Or.inr h
  have hS : va_S A s.heap s.heap [] := va_S.rf
  have hP : va_P (dC, dI) vwCl [(h0, .inr (11, oX w sg ro tr gX)), (tr, .inr (9, oT w sg ro gT 0 0 0 0))] s.heap := hP
  have hl := lv_entry ([.ref h0, .int a0]) (n := 2) (Nat.le_of_ble_eq_true rfl)
  rw [lg_entry_eq]
  generalize (lg_sl ([.ref h0, .int a0]) ++ List.replicate (2 - (lg_sl ([.ref h0, .int a0])).length) Slot.unset).toArray = ls at hl ⊢
  have hl : lv_has ls 2 [(0, .ref h0), (1, .int a0)] := hl
  refine lv_iload_n hx hb dX11_needPacket_0 rfl (lv_at hl 1 rfl) ?_
  refine lv_if_lt (tgt := 15) hx hb dX11_needPacket_1 (by decide) (fun h1 => ?_) (fun h1 => ?_)
  · obtain ⟨sa9, hstr⟩ := hE.2.2.2.2.2.2.2.2.1
    exact vx_throwS (own := RX11) (A := A) (cls := "java/lang/IndexOutOfBoundsException") (text := "no such packet") (names := ["java/lang/RuntimeException", "java/lang/Exception"]) hx hb hfl hown (by decide +kernel) (by decide +kernel) (hts _ u_629) (hts _ u_20) hstr (vx_hat (B := gN) (fun w hw => hts w (thrI0 w hw)) thrI1 (fun w hw => va_Nw.use (gN_ot w hw) (hE.1 w hw))) thrI2 hZ.1 hZ.2 hS (by rw [hml]; exact hl.1) dX11_needPacket_15 dX11_needPacket_18 dX11_needPacket_19 dX11_needPacket_21 dX11_needPacket_24 (fun x h => (ht0 x h).elim) (Nat.le_of_ble_eq_true rfl) (Nat.le_of_ble_eq_true rfl) (Nat.le_of_ble_eq_true rfl) (Nat.le_of_ble_eq_true rfl) hlocks (fun t _ k1 k2 => ⟨(), trivial, rfl, ⟨Nat.le_trans hS.1 k1, fun q hq hn => (k2 q (Nat.lt_of_lt_of_le hq hS.1)).trans (hS.2.1 q hq hn)⟩⟩) hS.2.2 (Nat.le_of_ble_eq_true rfl) (Nat.le_of_ble_eq_true rfl)
  · refine lv_iload_n hx hb dX11_needPacket_4 rfl (lv_at hl 1 rfl) ?_
    refine lv_aload_n hx hb dX11_needPacket_5 rfl (lv_at hl 0 rfl) ?_
    refine va_get (D := (dC, dI)) (ci := 11) (v := .ref tr) (C := RX11) (T := TX11) (N := 7) hx hb hts gX11 hown hK hP 0 rfl rfl 5 (by decide) (hts _ u_479) (fun _ h9 => h9) rfl dX11_needPacket_6 ?_
    refine va_getN (D := (dC, dI)) (ci := 9) (v := .int 0) (C := RX9) (T := TX9) (N := 19) hx hb hts gX9 hown hK hP 1 rfl rfl 11 (by decide) (va_Nw.use rfl (hE.1 _ n_1)) (fun _ h9 => h9) rfl dX11_needPacket_9 ?_
    refine lv_icmp_lt (tgt := 25) hx hb dX11_needPacket_12 (by decide) (fun h9 => absurd h9 h1) (fun _ => ?_)
    obtain ⟨sa9, hstr⟩ := hE.2.2.2.2.2.2.2.2.1
    exact vx_throwS (own := RX11) (A := A) (cls := "java/lang/IndexOutOfBoundsException") (text := "no such packet") (names := ["java/lang/RuntimeException", "java/lang/Exception"]) hx hb hfl hown (by decide +kernel) (by decide +kernel) (hts _ u_629) (hts _ u_20) hstr (vx_hat (B := gN) (fun w hw => hts w (thrI0 w hw)) thrI1 (fun w hw => va_Nw.use (gN_ot w hw) (hE.1 w hw))) thrI2 hZ.1 hZ.2 hS (by rw [hml]; exact hl.1) dX11_needPacket_15 dX11_needPacket_18 dX11_needPacket_19 dX11_needPacket_21 dX11_needPacket_24 (fun x h => (ht0 x h).elim) (Nat.le_of_ble_eq_true rfl) (Nat.le_of_ble_eq_true rfl) (Nat.le_of_ble_eq_true rfl) (Nat.le_of_ble_eq_true rfl) hlocks (fun t _ k1 k2 => ⟨(), trivial, rfl, ⟨Nat.le_trans hS.1 k1, fun q hq hn => (k2 q (Nat.lt_of_lt_of_le hq hS.1)).trans (hS.2.1 q hq hn)⟩⟩) hS.2.2 (Nat.le_of_ble_eq_true rfl) (Nat.le_of_ble_eq_true rfl)
