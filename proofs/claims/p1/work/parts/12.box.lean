theorem dL_box_0 : decode cL_box 0 = .ok (.aload_n 2, 1) := by decide +kernel
theorem dL_box_1 : decode cL_box 1 = .ok (.iconst 0, 1) := by decide +kernel
theorem dL_box_2 : decode cL_box 2 = .ok (.aload_n 0, 1) := by decide +kernel
theorem dL_box_3 : decode cL_box 3 = .ok (.iload_n 1, 1) := by decide +kernel
theorem dL_box_4 : decode cL_box 4 = .ok (.invokevirtual 7, 3) := by decide +kernel
theorem dL_box_7 : decode cL_box 7 = .ok (.i2l, 1) := by decide +kernel
theorem dL_box_8 : decode cL_box 8 = .ok (.lastore, 1) := by decide +kernel
theorem dL_box_9 : decode cL_box 9 = .ok (.goto 9, 3) := by decide +kernel
theorem dL_box_12 : decode cL_box 12 = .ok (.astore_n 3, 1) := by decide +kernel
theorem dL_box_13 : decode cL_box 13 = .ok (.iconst 1, 1) := by decide +kernel
theorem dL_box_14 : decode cL_box 14 = .ok (.ireturn, 1) := by decide +kernel
theorem dL_box_18 : decode cL_box 18 = .ok (.iconst 0, 1) := by decide +kernel
theorem dL_box_19 : decode cL_box 19 = .ok (.ireturn, 1) := by decide +kernel
theorem dX10_addBox_0 : decode cX10_addBox 0 = .ok (.aload_n 0, 1) := by decide +kernel
theorem dX10_addBox_1 : decode cX10_addBox 1 = .ok (.getfield 46, 3) := by decide +kernel
theorem dX10_addBox_4 : decode cX10_addBox 4 = .ok (.bipush 10, 2) := by decide +kernel
theorem dX10_addBox_6 : decode cX10_addBox 6 = .ok (.if_icmp .lt 5, 3) := by decide +kernel
theorem dX10_addBox_11 : decode cX10_addBox 11 = .ok (.aload_n 0, 1) := by decide +kernel
theorem dX10_addBox_12 : decode cX10_addBox 12 = .ok (.getfield 9, 3) := by decide +kernel
theorem dX10_addBox_15 : decode cX10_addBox 15 = .ok (.aload_n 0, 1) := by decide +kernel
theorem dX10_addBox_16 : decode cX10_addBox 16 = .ok (.getfield 46, 3) := by decide +kernel
theorem dX10_addBox_19 : decode cX10_addBox 19 = .ok (.iload_n 1, 1) := by decide +kernel
theorem dX10_addBox_20 : decode cX10_addBox 20 = .ok (.iastore, 1) := by decide +kernel
theorem dX10_addBox_21 : decode cX10_addBox 21 = .ok (.aload_n 0, 1) := by decide +kernel
theorem dX10_addBox_22 : decode cX10_addBox 22 = .ok (.dup, 1) := by decide +kernel
theorem dX10_addBox_23 : decode cX10_addBox 23 = .ok (.getfield 46, 3) := by decide +kernel
theorem dX10_addBox_26 : decode cX10_addBox 26 = .ok (.iconst 1, 1) := by decide +kernel
theorem dX10_addBox_27 : decode cX10_addBox 27 = .ok (.iadd, 1) := by decide +kernel
theorem dX10_addBox_28 : decode cX10_addBox 28 = .ok (.putfield 46, 3) := by decide +kernel
theorem dX10_addBox_31 : decode cX10_addBox 31 = .ok (.aload_n 0, 1) := by decide +kernel
theorem dX10_addBox_32 : decode cX10_addBox 32 = .ok (.getfield 46, 3) := by decide +kernel
theorem dX10_addBox_35 : decode cX10_addBox 35 = .ok (.iconst 1, 1) := by decide +kernel
theorem dX10_addBox_36 : decode cX10_addBox 36 = .ok (.isub, 1) := by decide +kernel
theorem dX10_addBox_37 : decode cX10_addBox 37 = .ok (.ireturn, 1) := by decide +kernel
theorem dX11_box_0 : decode cX11_box 0 = .ok (.iload_n 1, 1) := by decide +kernel
theorem dX11_box_1 : decode cX11_box 1 = .ok (.ifCond .lt 12, 3) := by decide +kernel
theorem dX11_box_4 : decode cX11_box 4 = .ok (.iload_n 1, 1) := by decide +kernel
theorem dX11_box_5 : decode cX11_box 5 = .ok (.iconst 2, 1) := by decide +kernel
theorem dX11_box_6 : decode cX11_box 6 = .ok (.if_icmp .gt 7, 3) := by decide +kernel
theorem dX11_box_9 : decode cX11_box 9 = .ok (.iconst 1, 1) := by decide +kernel
theorem dX11_box_10 : decode cX11_box 10 = .ok (.goto 4, 3) := by decide +kernel
theorem dX11_box_13 : decode cX11_box 13 = .ok (.iconst 0, 1) := by decide +kernel
theorem dX11_box_14 : decode cX11_box 14 = .ok (.invokestatic 64, 3) := by decide +kernel
theorem dX11_box_17 : decode cX11_box 17 = .ok (.aload_n 0, 1) := by decide +kernel
theorem dX11_box_18 : decode cX11_box 18 = .ok (.getfield 12, 3) := by decide +kernel
theorem dX11_box_21 : decode cX11_box 21 = .ok (.iload_n 1, 1) := by decide +kernel
theorem dX11_box_22 : decode cX11_box 22 = .ok (.invokevirtual 68, 3) := by decide +kernel
theorem dX11_box_25 : decode cX11_box 25 = .ok (.istore_n 2, 1) := by decide +kernel
theorem dX11_box_26 : decode cX11_box 26 = .ok (.iload_n 2, 1) := by decide +kernel
theorem dX11_box_27 : decode cX11_box 27 = .ok (.iconst (-1), 1) := by decide +kernel
theorem dX11_box_28 : decode cX11_box 28 = .ok (.if_icmp .eq 7, 3) := by decide +kernel
theorem dX11_box_31 : decode cX11_box 31 = .ok (.iconst 1, 1) := by decide +kernel
theorem dX11_box_32 : decode cX11_box 32 = .ok (.goto 4, 3) := by decide +kernel
theorem dX11_box_36 : decode cX11_box 36 = .ok (.invokestatic 72, 3) := by decide +kernel
theorem dX11_box_39 : decode cX11_box 39 = .ok (.iload_n 2, 1) := by decide +kernel
theorem dX11_box_40 : decode cX11_box 40 = .ok (.ireturn, 1) := by decide +kernel
theorem dX11_frames_0 : decode cX11_frames 0 = .ok (.aload_n 0, 1) := by decide +kernel
theorem dX11_frames_1 : decode cX11_frames 1 = .ok (.getfield 53, 3) := by decide +kernel
theorem dX11_frames_4 : decode cX11_frames 4 = .ok (.getfield 187, 3) := by decide +kernel
theorem dX11_frames_7 : decode cX11_frames 7 = .ok (.ireturn, 1) := by decide +kernel
theorem dX11_needArgument_0 : decode cX11_needArgument 0 = .ok (.iload_n 0, 1) := by decide +kernel
theorem dX11_needArgument_1 : decode cX11_needArgument 1 = .ok (.ifCond .ne 13, 3) := by decide +kernel
theorem dX11_needArgument_4 : decode cX11_needArgument 4 = .ok (.new 242, 3) := by decide +kernel
theorem dX11_needArgument_7 : decode cX11_needArgument 7 = .ok (.dup, 1) := by decide +kernel
theorem dX11_needArgument_8 : decode cX11_needArgument 8 = .ok (.ldc 244, 2) := by decide +kernel
theorem dX11_needArgument_10 : decode cX11_needArgument 10 = .ok (.invokespecial 246, 3) := by decide +kernel
theorem dX11_needArgument_13 : decode cX11_needArgument 13 = .ok (.athrow, 1) := by decide +kernel
theorem dX11_needArgument_14 : decode cX11_needArgument 14 = .ok (.return_, 1) := by decide +kernel
theorem dX11_needRoom_0 : decode cX11_needRoom 0 = .ok (.iload_n 0, 1) := by decide +kernel
theorem dX11_needRoom_1 : decode cX11_needRoom 1 = .ok (.ifCond .ne 13, 3) := by decide +kernel
theorem dX11_needRoom_14 : decode cX11_needRoom 14 = .ok (.return_, 1) := by decide +kernel
theorem u_18 : Cond.initialized "java/lang/IllegalArgumentException" ∈ gU := gm (i := 18) (by decide +kernel) (by decide +kernel)
theorem u_503 : Cond.classLink RL 13 "java/lang/IllegalArgumentException" ∈ gU := gm (i := 503) (by decide +kernel) (by decide +kernel)
theorem u_505 : Cond.methodLink RL 7 yX11_box ∈ gU := gm (i := 505) (by decide +kernel) (by decide +kernel)
theorem u_506 : Cond.instanceMethod yX11_box ∈ gU := gm (i := 506) (by decide +kernel) (by decide +kernel)
theorem u_507 : Cond.selects RX11 yX11_box yX11_box ∈ gU := gm (i := 507) (by decide +kernel) (by decide +kernel)
theorem u_508 : Cond.code yX11_box cX11_box 3 (some .int) ∈ gU := gm (i := 508) (by decide +kernel) (by decide +kernel)
theorem u_509 : Cond.methodLink RX11 64 yX11_needArgument ∈ gU := gm (i := 509) (by decide +kernel) (by decide +kernel)
theorem u_510 : Cond.static yX11_needArgument ∈ gU := gm (i := 510) (by decide +kernel) (by decide +kernel)
theorem u_511 : Cond.code yX11_needArgument cX11_needArgument 1 none ∈ gU := gm (i := 511) (by decide +kernel) (by decide +kernel)
theorem u_512 : Cond.classLink RX11 242 "java/lang/IllegalArgumentException" ∈ gU := gm (i := 512) (by decide +kernel) (by decide +kernel)
theorem u_580 : Cond.methodLink RX11 68 yX10_addBox ∈ gU := gm (i := 580) (by decide +kernel) (by decide +kernel)
theorem u_581 : Cond.instanceMethod yX10_addBox ∈ gU := gm (i := 581) (by decide +kernel) (by decide +kernel)
theorem u_582 : Cond.selects RX10 yX10_addBox yX10_addBox ∈ gU := gm (i := 582) (by decide +kernel) (by decide +kernel)
theorem u_583 : Cond.code yX10_addBox cX10_addBox 2 (some .int) ∈ gU := gm (i := 583) (by decide +kernel) (by decide +kernel)
theorem u_584 : Cond.methodLink RX11 72 yX11_needRoom ∈ gU := gm (i := 584) (by decide +kernel) (by decide +kernel)
theorem u_585 : Cond.static yX11_needRoom ∈ gU := gm (i := 585) (by decide +kernel) (by decide +kernel)
theorem u_586 : Cond.code yX11_needRoom cX11_needRoom 1 none ∈ gU := gm (i := 586) (by decide +kernel) (by decide +kernel)
set_option maxHeartbeats 4000000 in
set_option maxRecDepth 100000 in
theorem c_X11_needArgument (l : Launch) (dC : Nat → ClassId) (dI : Nat → Nat → Nat) (sz : Nat) (hfl : l.stackTraces = false) (z : Int32) : vx_Met l yX11_needArgument (Cond.code yX11_needArgument cX11_needArgument 1 none :: gU) ({ frames := 6, cells := 1, slots := 6, locals := 82 }) (gPZ dC dI sz [] [] (va_A [] sz) [.int z]) (va_Qv (fun (u9 : Unit) => ¬ z = 0) (fun _ _ => True) (va_A [] sz)) (vx_X (fun _ : Unit => z = 0) (fun E9 _ _ => E9 = "java/lang/IllegalArgumentException") (va_A [] sz)) 1 6 (va_A [] sz) := by
  refine vx_ofW (cc := cX11_needArgument) (maxL := 1) (ret := none) (by decide) rfl ?_
  intro p e s m args below meth c s₁ B hml ht0 hv
  obtain ⟨rfl, hsz, hP, hK, hD0, hE, hZ⟩ := hv
  have hx := B.exec
  have hb := B.bytes
  have hr := B.returns
  have hts0 := atoms_spec (ws := Cond.code yX11_needArgument cX11_needArgument 1 none :: gU) B.pre
  have hts : ∀ w ∈ gU, w.before _ s = true := fun w h => hts0 w (List.mem_cons_of_mem _ h)
  have hown : s.vm.findClass RX11 = some m.cls := findClass_of_methodNamed B.named
  have hlocks := B.notSynchronized
  subst hsz
  have hD := hD0
  generalize hAe : va_A [] s.heap.size = A at hZ ⊢
  have hA : ∀ q : Nat, s.heap.size ≤ q → A q := fun q h => by rw [← hAe]; exact Or.inr h
  have hS : va_S A s.heap s.heap [] := va_S.rf
  have hP : va_P (dC, dI) vwCl [] s.heap := hP
  have hl := lv_entry ([.int z]) (n := 1) (Nat.le_of_ble_eq_true rfl)
  rw [lg_entry_eq]
  generalize (lg_sl ([.int z]) ++ List.replicate (1 - (lg_sl ([.int z])).length) Slot.unset).toArray = ls at hl ⊢
  have hl : lv_has ls 1 [(0, .int z)] := hl
  refine lv_iload_n hx hb dX11_needArgument_0 rfl (lv_at hl 0 rfl) ?_
  refine lv_if_ne (tgt := 14) hx hb dX11_needArgument_1 (by decide) (fun h1 => ?_) (fun h1 => ?_)
  · refine W.widen (k := 1) (n := 6) (Nat.le_of_ble_eq_true rfl) (Nat.le_of_ble_eq_true rfl) ?_
    refine vx_ret ?_
    exact W.vret hx hb hr (fun t ht hW => ⟨⟨(), rfl, h1, trivial⟩, hS.F ht⟩) hS.2.2 dX11_needArgument_14
  · obtain ⟨sa9, hstr⟩ := hE.2.2.2.2.2.2.2.2.2
    exact vx_throwS (own := RX11) (A := A) (cls := "java/lang/IllegalArgumentException") (text := "out of range, or of a kind that is not meant") (names := ["java/lang/RuntimeException", "java/lang/Exception"]) hx hb hfl hown (by decide +kernel) (by decide +kernel) (hts _ u_512) (hts _ u_18) hstr (vx_hat (B := gN) (fun w hw => hts w (thrA0 w hw)) thrA1 (fun w hw => va_Nw.use (gN_ot w hw) (hE.1 w hw))) thrA2 hZ.1 hZ.2 hS (by rw [hml]; exact hl.1) dX11_needArgument_4 dX11_needArgument_7 dX11_needArgument_8 dX11_needArgument_10 dX11_needArgument_13 (fun x h => (ht0 x h).elim) (Nat.le_of_ble_eq_true rfl) (Nat.le_of_ble_eq_true rfl) (Nat.le_of_ble_eq_true rfl) (Nat.le_of_ble_eq_true rfl) hlocks (fun t _ k1 k2 => ⟨(), h1, rfl, ⟨Nat.le_trans hS.1 k1, fun q hq hn => (k2 q (Nat.lt_of_lt_of_le hq hS.1)).trans (hS.2.1 q hq hn)⟩⟩) hS.2.2 (Nat.le_of_ble_eq_true rfl) (Nat.le_of_ble_eq_true rfl)
set_option maxHeartbeats 4000000 in
set_option maxRecDepth 100000 in
theorem c_X11_needRoom (l : Launch) (dC : Nat → ClassId) (dI : Nat → Nat → Nat) (sz : Nat) (z : Int32) (hz : ¬ z = 0) : Met l yX11_needRoom (Cond.code yX11_needRoom cX11_needRoom 1 none :: gU) ({ frames := 0, cells := 0, slots := 0, locals := 0 }) (gP dC dI sz [] [] [.int z]) (va_Qv (fun (_ : Unit) => True) (fun _ _ => True) (va_A [] sz)) 0 0 (va_A [] sz) := by
  refine Met.ofW (cc := cX11_needRoom) (maxL := 1) (ret := none) (by decide) rfl ?_
  intro p e s m args below meth c s₁ B hml hv
  obtain ⟨rfl, hsz, hP, hK, hD0, hE⟩ := hv
  have hx := B.exec
  have hb := B.bytes
  have hr := B.returns
  have hts0 := atoms_spec (ws := Cond.code yX11_needRoom cX11_needRoom 1 none :: gU) B.pre
  have hts : ∀ w ∈ gU, w.before _ s = true := fun w h => hts0 w (List.mem_cons_of_mem _ h)
  have hown : s.vm.findClass RX11 = some m.cls := findClass_of_methodNamed B.named
  have hlocks := B.notSynchronized
  subst hsz
  have hD := hD0
  generalize hAe : va_A [] s.heap.size = A at ⊢
  have hA : ∀ q : Nat, s.heap.size ≤ q → A q := fun q h => by rw [← hAe]; exact Or.inr h
  have hS : va_S A s.heap s.heap [] := va_S.rf
  have hP : va_P (dC, dI) vwCl [] s.heap := hP
  have hl := lv_entry ([.int z]) (n := 1) (Nat.le_of_ble_eq_true rfl)
  rw [lg_entry_eq]
  generalize (lg_sl ([.int z]) ++ List.replicate (1 - (lg_sl ([.int z])).length) Slot.unset).toArray = ls at hl ⊢
  have hl : lv_has ls 1 [(0, .int z)] := hl
  refine lv_iload_n hx hb dX11_needRoom_0 rfl (lv_at hl 0 rfl) ?_
  refine lv_if_ne (tgt := 14) hx hb dX11_needRoom_1 (by decide) (fun _ => ?_) (fun h9 => absurd h9 hz)
  refine W.widen (k := 0) (n := 0) (Nat.le_of_ble_eq_true rfl) (Nat.le_of_ble_eq_true rfl) ?_
  exact W.vret hx hb hr (fun t ht hW => ⟨⟨(), rfl, trivial, trivial⟩, hS.F ht⟩) hS.2.2 dX11_needRoom_14
set_option maxHeartbeats 4000000 in
set_option maxRecDepth 100000 in
theorem c_X10_addBox (l : Launch) (dC : Nat → ClassId) (dI : Nat → Nat → Nat) (sz : Nat) (h0 : Nat) (kd : Nat) (gW : Nat → Nat) (cK : ClassId) (a0 : Int32) : Met l yX10_addBox (Cond.code yX10_addBox cX10_addBox 2 (some .int) :: gU) ({ frames := 0, cells := 0, slots := 0, locals := 0 }) (gP dC dI sz [(h0, .inr (10, oW kd gW 0 0)), (kd, .inl (cK, 10, .inl (fun _ => 0)))] [(cK, .int)] [.ref h0, .int a0]) (va_Qi (fun (r : Int32) (_ : Unit) => r = 0) (fun (_ : Unit) (t9 : State) => va_P (dC, dI) vwCl [] t9.heap ∧ va_K (dC, dI) vwCl [] t9 ∧ va_D (va_A [(h0, .inr (10, oW kd gW 0 0)), (kd, .inl (cK, 10, .inl (fun _ => 0)))] sz) []) (va_A [(h0, .inr (10, oW kd gW 0 0)), (kd, .inl (cK, 10, .inl (fun _ => 0)))] sz)) 0 0 (va_A [(h0, .inr (10, oW kd gW 0 0)), (kd, .inl (cK, 10, .inl (fun _ => 0)))] sz) := by
  refine Met.ofW (cc := cX10_addBox) (maxL := 2) (ret := (some .int)) (by decide) rfl ?_
  intro p e s m args below meth c s₁ B hml hv
  obtain ⟨rfl, hsz, hP, hK, hD0, hE⟩ := hv
  have hx := B.exec
  have hb := B.bytes
  have hr := B.returns
  have hts0 := atoms_spec (ws := Cond.code yX10_addBox cX10_addBox 2 (some .int) :: gU) B.pre
  have hts : ∀ w ∈ gU, w.before _ s = true := fun w h => hts0 w (List.mem_cons_of_mem _ h)
  have hown : s.vm.findClass RX10 = some m.cls := findClass_of_methodNamed B.named
  have hlocks := B.notSynchronized
  subst hsz
  have hD := hD0.self (sz := s.heap.size)
  generalize hAe : va_A [(h0, .inr (10, oW kd gW 0 0)), (kd, .inl (cK, 10, .inl (fun _ => 0)))] s.heap.size = A at hD ⊢
  have hA : ∀ q : Nat, s.heap.size ≤ q → A q := fun q h => by rw [← hAe]; exact Or.inr h
  have hS : va_S A s.heap s.heap [] := va_S.rf
  have hP : va_P (dC, dI) vwCl [(h0, .inr (10, oW kd gW 0 0)), (kd, .inl (cK, 10, .inl (fun _ => 0)))] s.heap := hP
  have hl := lv_entry ([.ref h0, .int a0]) (n := 2) (Nat.le_of_ble_eq_true rfl)
  rw [lg_entry_eq]
  generalize (lg_sl ([.ref h0, .int a0]) ++ List.replicate (2 - (lg_sl ([.ref h0, .int a0])).length) Slot.unset).toArray = ls at hl ⊢
  have hl : lv_has ls 2 [(0, .ref h0), (1, .int a0)] := hl
  refine lv_aload_n hx hb dX10_addBox_0 rfl (lv_at hl 0 rfl) ?_
  refine va_get (D := (dC, dI)) (ci := 10) (v := .int 0) (C := RX10) (T := TX10) (N := 11) hx hb hts gX10 hown hK hP 0 rfl rfl 0 (by decide) (hts _ u_40) (fun _ h9 => h9) rfl dX10_addBox_1 ?_
  refine lv_bipush (v := 10) hx hb dX10_addBox_4 (by decide) ?_
  refine lv_icmp_lt (tgt := 11) hx hb dX10_addBox_6 (by decide) (fun _ => ?_) (fun h9 => absurd (by decide) h9)
  refine lv_aload_n hx hb dX10_addBox_11 rfl (lv_at hl 0 rfl) ?_
  refine va_get (D := (dC, dI)) (ci := 10) (v := .ref kd) (C := RX10) (T := TX10) (N := 11) hx hb hts gX10 hown hK hP 0 rfl rfl 2 (by decide) (hts _ u_44) (fun _ h9 => h9) rfl dX10_addBox_12 ?_
  refine lv_aload_n hx hb dX10_addBox_15 rfl (lv_at hl 0 rfl) ?_
  refine va_get (D := (dC, dI)) (ci := 10) (v := .int 0) (C := RX10) (T := TX10) (N := 11) hx hb hts gX10 hown hK hP 0 rfl rfl 0 (by decide) (hts _ u_40) (fun _ h9 => h9) rfl dX10_addBox_16 ?_
  refine lv_iload_n hx hb dX10_addBox_19 rfl (lv_at hl 1 rfl) ?_
  refine va_iast hx hb hK hP hD hS 1 0 rfl rfl (by unfold vp_in; decide) dX10_addBox_20 (fun H856 locs hP hD hS => ?_)
  generalize hff857 : upd (fun _ => 0) (0 : Int32).toNatClampNeg a0 = f857 at hP hD
  have hP : va_P (dC, dI) vwCl [(h0, .inr (10, oW kd gW 0 0)), (kd, .inl (cK, 10, .inl f857))] H856 := hP
  have hD : va_D A [(h0, .inr (10, oW kd gW 0 0)), (kd, .inl (cK, 10, .inl f857))] := hD
  refine lv_aload_n hx hb dX10_addBox_21 rfl (lv_at hl 0 rfl) ?_
  refine lv_dup hx hb dX10_addBox_22 rfl ?_
  refine va_get (D := (dC, dI)) (ci := 10) (v := .int 0) (C := RX10) (T := TX10) (N := 11) hx hb hts gX10 hown hK hP 0 rfl rfl 0 (by decide) (hts _ u_40) (fun _ h9 => h9) rfl dX10_addBox_23 ?_
  refine lv_iconst (v := 1) hx hb dX10_addBox_26 (by decide) ?_
  refine lv_iadd hx hb dX10_addBox_27 ?_
  refine lv_topi (fun z858 ez858 => ?_)
  obtain rfl : z858 = 1 := ez858.trans (by decide)
  refine va_put (D := (dC, dI)) (ci := 10) (v := .int 1) (ty := .int) (C := RX10) (T := TX10) (N := 11) hx hb hts gX10 tyX10 tyX10_ok nmX10 hown hK hP hD hS 0 rfl rfl 0 (by decide) (hts _ u_40) (fun _ h9 => h9) rfl (by decide +kernel) rfl rfl (Nat.le_of_ble_eq_true rfl) dX10_addBox_28 (fun H859 locs hP hD hS => ?_)
  have hP : va_P (dC, dI) vwCl [(h0, .inr (10, oW kd gW 1 0)), (kd, .inl (cK, 10, .inl f857))] H859 := hP
  have hD : va_D A [(h0, .inr (10, oW kd gW 1 0)), (kd, .inl (cK, 10, .inl f857))] := hD
  refine lv_aload_n hx hb dX10_addBox_31 rfl (lv_at hl 0 rfl) ?_
  refine va_get (D := (dC, dI)) (ci := 10) (v := .int 1) (C := RX10) (T := TX10) (N := 11) hx hb hts gX10 hown hK hP 0 rfl rfl 0 (by decide) (hts _ u_40) (fun _ h9 => h9) rfl dX10_addBox_32 ?_
  refine lv_iconst (v := 1) hx hb dX10_addBox_35 (by decide) ?_
  refine lv_isub hx hb dX10_addBox_36 ?_
  refine lv_topi (fun z860 ez860 => ?_)
  obtain rfl : z860 = 0 := ez860.trans (by decide)
  have hP := hP.sub (ws' := []) [] rfl
  have hD := hD.sub (ws' := []) [] (by decide) rfl
  have hK := hK.sub (tys' := []) [] rfl
  refine W.widen (k := 0) (n := 0) (Nat.le_of_ble_eq_true rfl) (Nat.le_of_ble_eq_true rfl) ?_
  exact W.iret (v := 0) hx hb hr (fun t ht hW => ⟨⟨0, (), rfl, rfl, ⟨by rw [ht]; exact hP, va_K.moved hW.alike hK, hD⟩⟩, hS.F ht⟩) hS.2.2 dX10_addBox_37
set_option maxHeartbeats 4000000 in
set_option maxRecDepth 100000 in
theorem c_X11_box (l : Launch) (dC : Nat → ClassId) (dI : Nat → Nat → Nat) (sz : Nat) (hfl : l.stackTraces = false) (h0 : Nat) (w : Nat) (sg : Nat) (ro : Nat) (tr : Nat) (gX : Nat → Nat) (kd : Nat) (gW : Nat → Nat) (cK : ClassId) (a0 : Int32) : vx_Met l yX11_box (Cond.code yX11_box cX11_box 3 (some .int) :: gU) ({ frames := 7, cells := 1, slots := 6, locals := 102 }) (gPZ dC dI sz [(h0, .inr (11, oX w sg ro tr gX)), (w, .inr (10, oW kd gW 0 0)), (kd, .inl (cK, 10, .inl (fun _ => 0)))] [(cK, .int)] (va_A [(h0, .inr (11, oX w sg ro tr gX)), (w, .inr (10, oW kd gW 0 0)), (kd, .inl (cK, 10, .inl (fun _ => 0)))] sz) [.ref h0, .int a0]) (va_Qi (fun (r : Int32) (u9 : Unit) => r = 0 ∧ (0 ≤ a0 ∧ a0 ≤ 2)) (fun (u9 : Unit) (t9 : State) => va_P (dC, dI) vwCl [] t9.heap ∧ va_K (dC, dI) vwCl [] t9 ∧ va_D (va_A [(h0, .inr (11, oX w sg ro tr gX)), (w, .inr (10, oW kd gW 0 0)), (kd, .inl (cK, 10, .inl (fun _ => 0)))] sz) []) (va_A [(h0, .inr (11, oX w sg ro tr gX)), (w, .inr (10, oW kd gW 0 0)), (kd, .inl (cK, 10, .inl (fun _ => 0)))] sz)) (vx_X (fun _ : Unit => ¬ (0 ≤ a0 ∧ a0 ≤ 2)) (fun E9 _ _ => E9 = "java/lang/IllegalArgumentException") (va_A [(h0, .inr (11, oX w sg ro tr gX)), (w, .inr (10, oW kd gW 0 0)), (kd, .inl (cK, 10, .inl (fun _ => 0)))] sz)) 1 6 (va_A [(h0, .inr (11, oX w sg ro tr gX)), (w, .inr (10, oW kd gW 0 0)), (kd, .inl (cK, 10, .inl (fun _ => 0)))] sz) := by
  refine vx_ofW (cc := cX11_box) (maxL := 3) (ret := (some .int)) (by decide) rfl ?_
  intro p e s m args below meth c s₁ B hml ht0 hv
  obtain ⟨rfl, hsz, hP, hK, hD0, hE, hZ⟩ := hv
  have hx := B.exec
  have hb := B.bytes
  have hr := B.returns
  have hts0 := atoms_spec (ws := Cond.code yX11_box cX11_box 3 (some .int) :: gU) B.pre
  have hts : ∀ w ∈ gU, w.before _ s = true := fun w h => hts0 w (List.mem_cons_of_mem _ h)
  have hown : s.vm.findClass RX11 = some m.cls := findClass_of_methodNamed B.named
  have hlocks := B.notSynchronized
  subst hsz
  have hD := hD0.self (sz := s.heap.size)
  generalize hAe : va_A [(h0, .inr (11, oX w sg ro tr gX)), (w, .inr (10, oW kd gW 0 0)), (kd, .inl (cK, 10, .inl (fun _ => 0)))] s.heap.size = A at hZ hD ⊢
  have hA : ∀ q : Nat, s.heap.size ≤ q → A q := fun q h => by rw [← hAe]; exact Or.inr h
  have hS : va_S A s.heap s.heap [] := va_S.rf
  have hP : va_P (dC, dI) vwCl [(h0, .inr (11, oX w sg ro tr gX)), (w, .inr (10, oW kd gW 0 0)), (kd, .inl (cK, 10, .inl (fun _ => 0)))] s.heap := hP
  have hl := lv_entry ([.ref h0, .int a0]) (n := 3) (Nat.le_of_ble_eq_true rfl)
  rw [lg_entry_eq]
  generalize (lg_sl ([.ref h0, .int a0]) ++ List.replicate (3 - (lg_sl ([.ref h0, .int a0])).length) Slot.unset).toArray = ls at hl ⊢
  have hl : lv_has ls 3 [(0, .ref h0), (1, .int a0)] := hl
  refine lv_iload_n hx hb dX11_box_0 rfl (lv_at hl 1 rfl) ?_
  refine lv_if_lt (tgt := 13) hx hb dX11_box_1 (by decide) (fun h1 => ?_) (fun h1 => ?_)
  · refine lv_iconst (v := 0) hx hb dX11_box_13 (by decide) ?_
    have hPc := hP.sub (ws' := []) [] rfl
    have hDc := hD.sub (ws' := []) [] (by decide) rfl
    have hKc := hK.sub (tys' := []) [] rfl
    have hFc := roF hS hA
    refine vx_callv (vx_runS (As := [.int 0]) (rest := []) ⟨hx, hb, hml, hown, hts⟩ (c_X11_needArgument l dC dI s.heap.size hfl 0) (va_cwS 1 hts (gS u_509 u_510 u_1 u_511) rfl rfl rfl (by decide +kernel) ⟨Nat.le_of_ble_eq_true rfl, Nat.le_of_ble_eq_true rfl⟩) ⟨gPZ_blind, gPZ_call hPc hKc hDc hE hZ hS hFc⟩ rfl rfl hl.1 rfl (lv_room (Nat.le_of_ble_eq_true rfl)) dX11_box_14 ⟨(Nat.le_of_ble_eq_true rfl), (Nat.le_of_ble_eq_true rfl)⟩) hS (fun q _ h => hFc q h) hFc (fun q _ h => hFc q h) (fun E9 ce9 q863 u9 t9 H861 locs ht hvm hpx hBX hz1 hk1 hS hce hcv hcl => ?_) (fun u9 t9 H861 locs ht hvm hw hB hz1 hk1 hS => ?_)
    · exact vx_out (fun x h => (ht0 x h).elim) hlocks hce hcv hcl (fun t ht _ => ⟨(), (fun q => i_lt_nle h1 q.1), hBX, hS.F ht⟩) hS.2.2 (Nat.le_of_ble_eq_true rfl) (Nat.le_of_ble_eq_true rfl)
    have hP := roP hP hk1
    refine W.widen (k := 1) (n := 6) (Nat.le_of_ble_eq_true rfl) (Nat.le_of_ble_eq_true rfl) ?_
    exact absurd rfl hw
  · refine lv_iload_n hx hb dX11_box_4 rfl (lv_at hl 1 rfl) ?_
    refine lv_iconst (v := 2) hx hb dX11_box_5 (by decide) ?_
    refine lv_icmp_gt (tgt := 13) hx hb dX11_box_6 (by decide) (fun h2 => ?_) (fun h2 => ?_)
    · refine lv_iconst (v := 0) hx hb dX11_box_13 (by decide) ?_
      have hPc := hP.sub (ws' := []) [] rfl
      have hDc := hD.sub (ws' := []) [] (by decide) rfl
      have hKc := hK.sub (tys' := []) [] rfl
      have hFc := roF hS hA
      refine vx_callv (vx_runS (As := [.int 0]) (rest := []) ⟨hx, hb, hml, hown, hts⟩ (c_X11_needArgument l dC dI s.heap.size hfl 0) (va_cwS 1 hts (gS u_509 u_510 u_1 u_511) rfl rfl rfl (by decide +kernel) ⟨Nat.le_of_ble_eq_true rfl, Nat.le_of_ble_eq_true rfl⟩) ⟨gPZ_blind, gPZ_call hPc hKc hDc hE hZ hS hFc⟩ rfl rfl hl.1 rfl (lv_room (Nat.le_of_ble_eq_true rfl)) dX11_box_14 ⟨(Nat.le_of_ble_eq_true rfl), (Nat.le_of_ble_eq_true rfl)⟩) hS (fun q _ h => hFc q h) hFc (fun q _ h => hFc q h) (fun E9 ce9 q866 u9 t9 H864 locs ht hvm hpx hBX hz1 hk1 hS hce hcv hcl => ?_) (fun u9 t9 H864 locs ht hvm hw hB hz1 hk1 hS => ?_)
      · exact vx_out (fun x h => (ht0 x h).elim) hlocks hce hcv hcl (fun t ht _ => ⟨(), (fun q => i_lt_nle h2 q.2), hBX, hS.F ht⟩) hS.2.2 (Nat.le_of_ble_eq_true rfl) (Nat.le_of_ble_eq_true rfl)
      have hP := roP hP hk1
      refine W.widen (k := 1) (n := 6) (Nat.le_of_ble_eq_true rfl) (Nat.le_of_ble_eq_true rfl) ?_
      exact absurd rfl hw
    · refine lv_iconst (v := 1) hx hb dX11_box_9 (by decide) ?_
      refine lv_goto (tgt := 14) hx hb dX11_box_10 (by decide) ?_
      have hPc := hP.sub (ws' := []) [] rfl
      have hDc := hD.sub (ws' := []) [] (by decide) rfl
      have hKc := hK.sub (tys' := []) [] rfl
      have hFc := roF hS hA
      refine vx_callv (vx_runS (As := [.int 1]) (rest := []) ⟨hx, hb, hml, hown, hts⟩ (c_X11_needArgument l dC dI s.heap.size hfl 1) (va_cwS 1 hts (gS u_509 u_510 u_1 u_511) rfl rfl rfl (by decide +kernel) ⟨Nat.le_of_ble_eq_true rfl, Nat.le_of_ble_eq_true rfl⟩) ⟨gPZ_blind, gPZ_call hPc hKc hDc hE hZ hS hFc⟩ rfl rfl hl.1 rfl (lv_room (Nat.le_of_ble_eq_true rfl)) dX11_box_14 ⟨(Nat.le_of_ble_eq_true rfl), (Nat.le_of_ble_eq_true rfl)⟩) hS (fun q _ h => hFc q h) hFc (fun q _ h => hFc q h) (fun E9 ce9 q869 u9 t9 H867 locs ht hvm hpx hBX hz1 hk1 hS hce hcv hcl => ?_) (fun u9 t9 H867 locs ht hvm hw hB hz1 hk1 hS => ?_)
      · exact absurd hpx (by decide)
      have hP := roP hP hk1
      refine W.widen (k := 1) (n := 6) (Nat.le_of_ble_eq_true rfl) (Nat.le_of_ble_eq_true rfl) ?_
      refine lv_aload_n hx hb dX11_box_17 rfl (lv_at hl 0 rfl) ?_
      refine va_get (D := (dC, dI)) (ci := 11) (v := .ref w) (C := RX11) (T := TX11) (N := 7) hx hb hts gX11 hown hK hP 0 rfl rfl 0 (by decide) (hts _ u_474) (fun _ h9 => h9) rfl dX11_box_18 ?_
      refine lv_iload_n hx hb dX11_box_21 rfl (lv_at hl 1 rfl) ?_
      have hPc := hP.sub (ws' := [(w, .inr (10, oW kd gW 0 0)), (kd, .inl (cK, 10, .inl (fun _ => 0)))]) [1, 2] rfl
      have hDc := hD.sub (ws' := [(w, .inr (10, oW kd gW 0 0)), (kd, .inl (cK, 10, .inl (fun _ => 0)))]) [1, 2] (by decide) rfl
      have hKc := hK.sub (tys' := [(cK, .int)]) [0] rfl
      have hFc := va_free (wc := [(w, .inr (10, oW kd gW 0 0)), (kd, .inl (cK, 10, .inl (fun _ => 0)))]) hD hS hA [1, 2] rfl
      refine va_calli (va_runV (As := [.int a0]) (rest := []) ⟨hx, hb, hml, hown, hts⟩ (c_X10_addBox l dC dI H867.size w kd gW cK a0) (cwV 1 hts (gV u_580 u_581 u_582 u_2 u_583) rfl rfl rfl (by decide +kernel) ⟨Nat.le_of_ble_eq_true rfl, Nat.le_of_ble_eq_true rfl⟩) ⟨gP_blind, va_recv hKc hPc (ci := 10) (q0 := 0) rfl rfl, gP_call hPc hKc hDc hE⟩ rfl rfl hl.1 rfl (lv_room (Nat.le_of_ble_eq_true rfl)) dX11_box_22 ⟨(Nat.le_of_ble_eq_true rfl), (Nat.le_of_ble_eq_true rfl)⟩) hS (fun q _ h => hFc q h) hFc (fun r871 u9 t9 H870 locs ht hvm hw hB hz1 hk1 hS => ?_)
      obtain ⟨hP1, hK1, hD1⟩ := hB
      rw [ht] at hP1
      have hK1 := va_K.moved hvm.symm hK1
      obtain ⟨hP, hD⟩ := va_join (wr := [(h0, .inr (11, oX w sg ro tr gX))]) (w1 := []) hP hD [1, 2] [0] rfl rfl (by decide) (by decide) hk1 hFc hP1 hD1
      have hK := (hK.sub (tys' := []) [] rfl).app hK1
      have hK : va_K (dC, dI) vwCl [] s := hK
      have hP : va_P (dC, dI) vwCl [(h0, .inr (11, oX w sg ro tr gX))] H870 := hP
      have hD : va_D A [(h0, .inr (11, oX w sg ro tr gX))] := hD
      subst hw
      refine lv_istore_n (lv' := [(2, .int 0), (0, .ref h0), (1, .int a0)]) hx hb dX11_box_25 rfl hl (by decide) rfl (fun ls hl => ?_)
      refine lv_iload_n hx hb dX11_box_26 rfl (lv_at hl 0 rfl) ?_
      refine lv_iconst (v := (-1)) hx hb dX11_box_27 (by decide) ?_
      refine lv_icmp_eq (tgt := 35) hx hb dX11_box_28 (by decide) (fun h9 => absurd h9 (by decide)) (fun _ => ?_)
      refine lv_iconst (v := 1) hx hb dX11_box_31 (by decide) ?_
      refine lv_goto (tgt := 36) hx hb dX11_box_32 (by decide) ?_
      have hPc := hP.sub (ws' := []) [] rfl
      have hDc := hD.sub (ws' := []) [] (by decide) rfl
      have hKc := hK.sub (tys' := []) [] rfl
      have hFc := roF hS hA
      refine va_callv (va_runS (As := [.int 1]) (rest := []) ⟨hx, hb, hml, hown, hts⟩ (c_X11_needRoom l dC dI H870.size 1 (by decide)) (va_cwS 1 hts (gS u_584 u_585 u_1 u_586) rfl rfl rfl (by decide +kernel) ⟨Nat.le_of_ble_eq_true rfl, Nat.le_of_ble_eq_true rfl⟩) ⟨gP_blind, gP_call hPc hKc hDc hE⟩ rfl rfl hl.1 rfl (lv_room (Nat.le_of_ble_eq_true rfl)) dX11_box_36 ⟨(Nat.le_of_ble_eq_true rfl), (Nat.le_of_ble_eq_true rfl)⟩) hS (fun q _ h => hFc q h) hFc (fun u9 t9 H872 locs ht hvm hw hB hz1 hk1 hS => ?_)
      have hP := roP hP hk1
      refine lv_iload_n hx hb dX11_box_39 rfl (lv_at hl 0 rfl) ?_
      have hP := hP.sub (ws' := []) [] rfl
      have hD := hD.sub (ws' := []) [] (by decide) rfl
      have hK := hK.sub (tys' := []) [] rfl
      refine W.widen (k := 1) (n := 6) (Nat.le_of_ble_eq_true rfl) (Nat.le_of_ble_eq_true rfl) ?_
      refine vx_ret ?_
      exact W.iret (v := 0) hx hb hr (fun t ht hW => ⟨⟨0, (), rfl, ⟨rfl, i_nlt h1, i_nlt h2⟩, ⟨by rw [ht]; exact hP, va_K.moved hW.alike hK, hD⟩⟩, hS.F ht⟩) hS.2.2 dX11_box_40
set_option maxHeartbeats 4000000 in
set_option maxRecDepth 100000 in
theorem c_L_box (l : Launch) (dC : Nat → ClassId) (dI : Nat → Nat → Nat) (sz : Nat) (hfl : l.stackTraces = false) (h0 : Nat) (w : Nat) (sg : Nat) (ro : Nat) (tr : Nat) (gX : Nat → Nat) (kd : Nat) (gW : Nat → Nat) (cK : ClassId) (a0 : Int32) (ou : Nat) (cO : ClassId) (fO : Nat → Int64) : Met l yL_box (Cond.codeWith yL_box cL_box 4 (some .int) [(0, 9, 12, 13), (0, 9, 15, 15)] :: gU) ({ frames := 8, cells := 1, slots := 6, locals := 124 }) (gPZ dC dI sz [(h0, .inr (11, oX w sg ro tr gX)), (w, .inr (10, oW kd gW 0 0)), (kd, .inl (cK, 10, .inl (fun _ => 0))), (ou, .inl (cO, 1, .inr (.inl fO)))] [(cK, .int), (cO, .long)] (va_A [(h0, .inr (11, oX w sg ro tr gX)), (w, .inr (10, oW kd gW 0 0)), (kd, .inl (cK, 10, .inl (fun _ => 0))), (ou, .inl (cO, 1, .inr (.inl fO)))] sz) [.ref h0, .int a0, .ref ou]) (va_Qi (fun (r : Int32) (u9 : Nat → Int64) => ((0 ≤ a0 ∧ a0 ≤ 2) → r = 0 ∧ u9 0 = 0) ∧ (¬ (0 ≤ a0 ∧ a0 ≤ 2) → r = 1)) (fun (u9 : Nat → Int64) (t9 : State) => va_P (dC, dI) vwCl [(ou, .inl (cO, 1, .inr (.inl u9)))] t9.heap ∧ va_K (dC, dI) vwCl [(cO, .long)] t9 ∧ va_D (va_A [(h0, .inr (11, oX w sg ro tr gX)), (w, .inr (10, oW kd gW 0 0)), (kd, .inl (cK, 10, .inl (fun _ => 0))), (ou, .inl (cO, 1, .inr (.inl fO)))] sz) [(ou, .inl (cO, 1, .inr (.inl u9)))]) (va_A [(h0, .inr (11, oX w sg ro tr gX)), (w, .inr (10, oW kd gW 0 0)), (kd, .inl (cK, 10, .inl (fun _ => 0))), (ou, .inl (cO, 1, .inr (.inl fO)))] sz)) 1 6 (va_A [(h0, .inr (11, oX w sg ro tr gX)), (w, .inr (10, oW kd gW 0 0)), (kd, .inl (cK, 10, .inl (fun _ => 0))), (ou, .inl (cO, 1, .inr (.inl fO)))] sz) := by
  refine va_MetW (cc := cL_box) (maxL := 4) (ret := (some .int)) (by decide) rfl ?_
  intro p e s m args below meth c s₁ B hml hv
  obtain ⟨rfl, hsz, hP, hK, hD0, hE, hZ⟩ := hv
  have hx := B.exec
  have hb := B.bytes
  have hr := B.returns
  have hts0 := atoms_spec (ws := Cond.codeWith yL_box cL_box 4 (some .int) [(0, 9, 12, 13), (0, 9, 15, 15)] :: gU) B.pre
  have hts : ∀ w ∈ gU, w.before _ s = true := fun w h => hts0 w (List.mem_cons_of_mem _ h)
  have hown : s.vm.findClass RL = some m.cls := findClass_of_methodNamed B.named
  have hlocks := B.notSynchronized
  have htab := vx_table (x := yL_box) B (hts0 _ List.mem_cons_self)
  subst hsz
  have hD := hD0.self (sz := s.heap.size)
  generalize hAe : va_A [(h0, .inr (11, oX w sg ro tr gX)), (w, .inr (10, oW kd gW 0 0)), (kd, .inl (cK, 10, .inl (fun _ => 0))), (ou, .inl (cO, 1, .inr (.inl fO)))] s.heap.size = A at hZ hD ⊢
  have hA : ∀ q : Nat, s.heap.size ≤ q → A q := fun q h => by rw [← hAe]; exact Or.inr h
  have hS : va_S A s.heap s.heap [] := va_S.rf
  have hP : va_P (dC, dI) vwCl [(h0, .inr (11, oX w sg ro tr gX)), (w, .inr (10, oW kd gW 0 0)), (kd, .inl (cK, 10, .inl (fun _ => 0))), (ou, .inl (cO, 1, .inr (.inl fO)))] s.heap := hP
  have hl := lv_entry ([.ref h0, .int a0, .ref ou]) (n := 4) (Nat.le_of_ble_eq_true rfl)
  rw [lg_entry_eq]
  generalize (lg_sl ([.ref h0, .int a0, .ref ou]) ++ List.replicate (4 - (lg_sl ([.ref h0, .int a0, .ref ou])).length) Slot.unset).toArray = ls at hl ⊢
  have hl : lv_has ls 4 [(0, .ref h0), (1, .int a0), (2, .ref ou)] := hl
  refine lv_aload_n hx hb dL_box_0 rfl (lv_at hl 2 rfl) ?_
  refine lv_iconst (v := 0) hx hb dL_box_1 (by decide) ?_
  refine lv_aload_n hx hb dL_box_2 rfl (lv_at hl 0 rfl) ?_
  refine lv_iload_n hx hb dL_box_3 rfl (lv_at hl 1 rfl) ?_
  have hPc := hP.sub (ws' := [(h0, .inr (11, oX w sg ro tr gX)), (w, .inr (10, oW kd gW 0 0)), (kd, .inl (cK, 10, .inl (fun _ => 0)))]) [0, 1, 2] rfl
  have hDc := hD.sub (ws' := [(h0, .inr (11, oX w sg ro tr gX)), (w, .inr (10, oW kd gW 0 0)), (kd, .inl (cK, 10, .inl (fun _ => 0)))]) [0, 1, 2] (by decide) rfl
  have hKc := hK.sub (tys' := [(cK, .int)]) [0] rfl
  have hFc := va_free (wc := [(h0, .inr (11, oX w sg ro tr gX)), (w, .inr (10, oW kd gW 0 0)), (kd, .inl (cK, 10, .inl (fun _ => 0)))]) hD hS hA [0, 1, 2] rfl
  refine vx_calli (vx_runV (As := [.int a0]) (rest := [.int 0, .ref ou]) ⟨hx, hb, hml, hown, hts⟩ (c_X11_box l dC dI s.heap.size hfl h0 w sg ro tr gX kd gW cK a0) (cwV 1 hts (gV u_505 u_506 u_507 u_1 u_508) rfl rfl rfl (by decide +kernel) ⟨Nat.le_of_ble_eq_true rfl, Nat.le_of_ble_eq_true rfl⟩) ⟨gPZ_blind, va_recv hKc hPc (ci := 11) (q0 := 0) rfl rfl, gPZ_call hPc hKc hDc hE hZ hS hFc⟩ rfl rfl hl.1 rfl (lv_room (Nat.le_of_ble_eq_true rfl)) dL_box_4 ⟨(Nat.le_of_ble_eq_true rfl), (Nat.le_of_ble_eq_true rfl)⟩) hS (fun q _ h => hFc q h) hFc (fun q _ h => hFc q h) (fun E9 ce9 q876 u9 t9 H874 locs ht hvm hpx hBX hz1 hk1 hS hce hcv hcl => ?_) (fun r875 u9 t9 H874 locs ht hvm hw hB hz1 hk1 hS => ?_)
  · subst hBX
    refine vx_widen (k := 1) (n := 6) (Nat.le_of_ble_eq_true rfl) (Nat.le_of_ble_eq_true rfl) ?_
    refine vx_catch (pc := 4) hown [] ⟨0, 9, 12, 13⟩ [⟨0, 9, 15, 15⟩] (by rw [htab]; rfl) (fun z hz => nomatch hz) (by decide) (by decide) (hts _ u_503) (va_Nw.use rfl (hE.1 _ n_9)) hce hcv hcl ?_
    obtain ⟨hP, hD⟩ := va_join (wr := [(ou, .inl (cO, 1, .inr (.inl fO)))]) (w1 := []) hP hD [0, 1, 2] [3] rfl rfl (by decide) (by decide) hk1 hFc (fun k q h => by simp at h) ⟨fun i j p q h => by simp at h, fun k q h => by simp at h⟩
    have hK := hK.sub (tys' := [(cO, .long)]) [1] rfl
    have hP : va_P (dC, dI) vwCl [(ou, .inl (cO, 1, .inr (.inl fO)))] H874 := hP
    have hD : va_D A [(ou, .inl (cO, 1, .inr (.inl fO)))] := hD
    refine lv_astore_n (lv' := [(3, .ref q876), (0, .ref h0), (1, .int a0), (2, .ref ou)]) hx hb dL_box_12 rfl hl (by decide) rfl (fun ls hl => ?_)
    refine lv_iconst (v := 1) hx hb dL_box_13 (by decide) ?_
    refine W.widen (k := 1) (n := 6) (Nat.le_of_ble_eq_true rfl) (Nat.le_of_ble_eq_true rfl) ?_
    exact W.iret (v := 1) hx hb hr (fun t ht hW => ⟨⟨1, fO, rfl, ⟨fun hy => absurd hy hpx, fun _ => rfl⟩, ⟨by rw [ht]; exact hP, va_K.moved hW.alike hK, hD⟩⟩, hS.F ht⟩) hS.2.2 dL_box_14
  obtain ⟨hP1, hK1, hD1⟩ := hB
  rw [ht] at hP1
  have hK1 := va_K.moved hvm.symm hK1
  obtain ⟨hP, hD⟩ := va_join (wr := [(ou, .inl (cO, 1, .inr (.inl fO)))]) (w1 := []) hP hD [0, 1, 2] [3] rfl rfl (by decide) (by decide) hk1 hFc hP1 hD1
  have hK := (hK.sub (tys' := [(cO, .long)]) [1] rfl).app hK1
  have hK : va_K (dC, dI) vwCl [(cO, .long)] s := hK
  have hP : va_P (dC, dI) vwCl [(ou, .inl (cO, 1, .inr (.inl fO)))] H874 := hP
  have hD : va_D A [(ou, .inl (cO, 1, .inr (.inl fO)))] := hD
  refine W.widen (k := 1) (n := 6) (Nat.le_of_ble_eq_true rfl) (Nat.le_of_ble_eq_true rfl) ?_
  obtain ⟨rfl, hrng⟩ := hw
  refine lv_i2l (v := 0) hx hb dL_box_7 (by decide) ?_
  refine va_last hx hb hK hP hD hS 0 0 rfl rfl (by unfold vp_in; decide) dL_box_8 (fun H877 locs hP hD hS => ?_)
  generalize hff878 : vp_updL fO (0 : Int32).toNatClampNeg 0 = f878 at hP hD
  have hP : va_P (dC, dI) vwCl [(ou, .inl (cO, 1, .inr (.inl f878)))] H877 := hP
  have hD : va_D A [(ou, .inl (cO, 1, .inr (.inl f878)))] := hD
  refine lv_goto (tgt := 18) hx hb dL_box_9 (by decide) ?_
  refine lv_iconst (v := 0) hx hb dL_box_18 (by decide) ?_
  refine W.widen (k := 1) (n := 6) (Nat.le_of_ble_eq_true rfl) (Nat.le_of_ble_eq_true rfl) ?_
  exact W.iret (v := 0) hx hb hr (fun t ht hW => ⟨⟨0, f878, rfl, ⟨fun _ => ⟨rfl, by rw [← hff878]; rfl⟩, fun hn => absurd hrng hn⟩, ⟨by rw [ht]; exact hP, va_K.moved hW.alike hK, hD⟩⟩, hS.F ht⟩) hS.2.2 dL_box_19
set_option maxHeartbeats 4000000 in
set_option maxRecDepth 100000 in
theorem c_X11_frames (l : Launch) (dC : Nat → ClassId) (dI : Nat → Nat → Nat) (sz : Nat) (h0 : Nat) (w : Nat) (sg : Nat) (ro : Nat) (tr : Nat) (gX : Nat → Nat) (gT : Nat → Nat) : Met l yX11_frames (Cond.code yX11_frames cX11_frames 1 (some .int) :: gU) ({ frames := 0, cells := 0, slots := 0, locals := 0 }) (gP dC dI sz [(h0, .inr (11, oX w sg ro tr gX)), (tr, .inr (9, oT w sg ro gT 0 0 0 0))] [] [.ref h0]) (va_Qi (fun (r : Int32) (_ : Unit) => r = 0) (fun _ _ => True) (va_A [] sz)) 0 0 (va_A [] sz) := by
  refine Met.ofW (cc := cX11_frames) (maxL := 1) (ret := (some .int)) (by decide) rfl ?_
  intro p e s m args below meth c s₁ B hml hv
  obtain ⟨rfl, hsz, hP, hK, hD0, hE⟩ := hv
  have hx := B.exec
  have hb := B.bytes
  have hr := B.returns
  have hts0 := atoms_spec (ws := Cond.code yX11_frames cX11_frames 1 (some .int) :: gU) B.pre
  have hts : ∀ w ∈ gU, w.before _ s = true := fun w h => hts0 w (List.mem_cons_of_mem _ h)
  have hown : s.vm.findClass RX11 = some m.cls := findClass_of_methodNamed B.named
  have hlocks := B.notSynchronized
  subst hsz
  have hD := hD0
  generalize hAe : va_A [] s.heap.size = A at ⊢
  have hA : ∀ q : Nat, s.heap.size ≤ q → A q := fun q h => by rw [← hAe]; exact Or.inr h
  have hS : va_S A s.heap s.heap [] := va_S.rf
  have hP : va_P (dC, dI) vwCl [(h0, .inr (11, oX w sg ro tr gX)), (tr, .inr (9, oT w sg ro gT 0 0 0 0))] s.heap := hP
  have hl := lv_entry ([.ref h0]) (n := 1) (Nat.le_of_ble_eq_true rfl)
  rw [lg_entry_eq]
  generalize (lg_sl ([.ref h0]) ++ List.replicate (1 - (lg_sl ([.ref h0])).length) Slot.unset).toArray = ls at hl ⊢
  have hl : lv_has ls 1 [(0, .ref h0)] := hl
  refine lv_aload_n hx hb dX11_frames_0 rfl (lv_at hl 0 rfl) ?_
  refine va_get (D := (dC, dI)) (ci := 11) (v := .ref tr) (C := RX11) (T := TX11) (N := 7) hx hb hts gX11 hown hK hP 0 rfl rfl 5 (by decide) (hts _ u_479) (fun _ h9 => h9) rfl dX11_frames_1 ?_
  refine va_getN (D := (dC, dI)) (ci := 9) (v := .int 0) (C := RX9) (T := TX9) (N := 19) hx hb hts gX9 hown hK hP 1 rfl rfl 9 (by decide) (va_Nw.use rfl (hE.1 _ n_3)) (fun _ h9 => h9) rfl dX11_frames_4 ?_
  refine W.widen (k := 0) (n := 0) (Nat.le_of_ble_eq_true rfl) (Nat.le_of_ble_eq_true rfl) ?_
  exact W.iret (v := 0) hx hb hr (fun t ht hW => ⟨⟨0, (), rfl, rfl, trivial⟩, hS.F ht⟩) hS.2.2 dX11_frames_7
