theorem dL_law_0 : decode cL_law 0 = .ok (.new 8, 3) := by decide +kernel
theorem dL_law_3 : decode cL_law 3 = .ok (.dup, 1) := by decide +kernel
theorem dL_law_4 : decode cL_law 4 = .ok (.invokespecial 92, 3) := by decide +kernel
theorem dL_law_7 : decode cL_law 7 = .ok (.astore_n 1, 1) := by decide +kernel
theorem dL_law_8 : decode cL_law 8 = .ok (.new 93, 3) := by decide +kernel
theorem dL_law_11 : decode cL_law 11 = .ok (.dup, 1) := by decide +kernel
theorem dL_law_12 : decode cL_law 12 = .ok (.invokespecial 95, 3) := by decide +kernel
theorem dL_law_15 : decode cL_law 15 = .ok (.astore_n 2, 1) := by decide +kernel
theorem dL_law_16 : decode cL_law 16 = .ok (.iconst 1, 1) := by decide +kernel
theorem dL_law_17 : decode cL_law 17 = .ok (.newarray .long, 2) := by decide +kernel
theorem dL_law_19 : decode cL_law 19 = .ok (.astore_n 3, 1) := by decide +kernel
theorem dL_law_20 : decode cL_law 20 = .ok (.iconst 0, 1) := by decide +kernel
theorem dL_law_21 : decode cL_law 21 = .ok (.istore 4, 2) := by decide +kernel
theorem dL_law_33 : decode cL_law 33 = .ok (.aload_n 0, 1) := by decide +kernel
theorem dL_law_34 : decode cL_law 34 = .ok (.iload 4, 2) := by decide +kernel
theorem dL_law_36 : decode cL_law 36 = .ok (.iaload, 1) := by decide +kernel
theorem dL_law_37 : decode cL_law 37 = .ok (.bipush 31, 2) := by decide +kernel
theorem dL_law_39 : decode cL_law 39 = .ok (.iand, 1) := by decide +kernel
theorem dL_law_40 : decode cL_law 40 = .ok (.tableswitch 1837 0 23 #[112, 168, 236, 299, 362, 430, 505, 585, 653, 745, 893, 984, 1064, 1144, 1200, 1256, 1312, 1368, 1381, 1449, 1529, 1597, 1665, 1745], 112) := by decide +kernel
theorem u_23 : Cond.classLink RL 8 RX11 ∈ gU := gm (i := 23) (by decide +kernel) (by decide +kernel)
theorem u_24 : Cond.instantiable RX11 7 ∈ gU := gm (i := 24) (by decide +kernel) (by decide +kernel)
theorem u_25 : Cond.methodLink RL 92 yX11_init ∈ gU := gm (i := 25) (by decide +kernel) (by decide +kernel)
theorem u_26 : Cond.instanceMethod yX11_init ∈ gU := gm (i := 26) (by decide +kernel) (by decide +kernel)
theorem u_27 : Cond.code yX11_init cX11_init 2 none ∈ gU := gm (i := 27) (by decide +kernel) (by decide +kernel)
theorem u_1244 : Cond.classLink RL 93 RX12 ∈ gU := gm (i := 1244) (by decide +kernel) (by decide +kernel)
theorem u_1245 : Cond.instantiable RX12 47 ∈ gU := gm (i := 1245) (by decide +kernel) (by decide +kernel)
theorem u_1246 : Cond.methodLink RL 95 yX12_init ∈ gU := gm (i := 1246) (by decide +kernel) (by decide +kernel)
theorem u_1247 : Cond.instanceMethod yX12_init ∈ gU := gm (i := 1247) (by decide +kernel) (by decide +kernel)
theorem u_1248 : Cond.code yX12_init cX12_init 2 none ∈ gU := gm (i := 1248) (by decide +kernel) (by decide +kernel)
theorem tm {w : Cond} {i : Nat} (h : tables_1[i]? = some w) : w ∈ lw_tbl := List.mem_append_right _ (List.mem_of_getElem? h)
theorem gN_eq : gN = [43, 366, 359, 363, 41, 619, 626, 313, 631, 514, 516, 518, 520].filterMap (fun i => tables_1[i]?) := by decide +kernel
theorem gN_in : ∀ w ∈ gN, w ∈ lw_tbl := fun w hw => by
  rw [gN_eq] at hw
  obtain ⟨i, -, hi⟩ := List.mem_filterMap.mp hw
  exact tm hi
theorem lt8 : ∀ L, L < 8 → Int32.ofNat L - 8 < 0 := by decide
set_option maxRecDepth 100000 in
theorem law_env {s : State} {b : Nat} (hts : ∀ w ∈ lw_tbl, w.before #[Value.ref b] s = true) (hgv : (Jvm.Cond.and given_1 narrow_1).before #[Value.ref b] s = true) : gEnv s := by
  have hs := flat_of_before _ hgv
  have st : ∀ (k : Nat) (tx : String), (Cond.stringRef RX11 k tx).before #[Value.ref b] s = true → (Cond.exactly (.string RX11 k) "java/lang/String").before #[Value.ref b] s = true → ∃ a, vk_R RX11 k tx a s := fun k tx h1 h2 => by
    obtain ⟨a, c, cA, kA, q1, -⟩ := Cond.exactly_spec (args := #[Value.ref b]) (first := s) (o := none) (s := s) (idx := []) (t := .string RX11 k) (cls := "java/lang/String") h2
    exact ⟨a, vk_R.of h1 q1⟩
  exact ⟨fun w hw => va_Nw.of (gN_ot w hw) (hts w (gN_in w hw)), va_AO.of (hts _ (tm (i := 140) (by decide +kernel))), va_AO.of (hts _ (tm (i := 147) (by decide +kernel))), va_AO.of (hts _ (tm (i := 311) (by decide +kernel))), va_AOA.of (hts _ (tm (i := 240) (by decide +kernel))), st 225 "no such box" (hts _ (tm (i := 790) (by decide +kernel))) (hs _ (by decide +kernel)), st 230 "no such port" (hts _ (tm (i := 638) (by decide +kernel))) (hs _ (by decide +kernel)), st 235 "no such cable" (hts _ (tm (i := 705) (by decide +kernel))) (hs _ (by decide +kernel)), st 240 "no such packet" (hts _ (tm (i := 1056) (by decide +kernel))) (hs _ (by decide +kernel)), st 244 "out of range, or of a kind that is not meant" (hts _ (tm (i := 553) (by decide +kernel))) (hs _ (by decide +kernel))⟩
set_option maxRecDepth 100000 in
theorem law_sta {s : State} {b : Nat} (hts : ∀ w ∈ lw_tbl, w.before #[Value.ref b] s = true) (hgv : (Jvm.Cond.and given_1 narrow_1).before #[Value.ref b] s = true) : gZ (fun q : Nat => s.heap.size ≤ q) s := by
  have hs := flat_of_before _ hgv
  exact ⟨vx_Zqof (hts _ (tm (i := 539) (by decide +kernel))) (hts _ (tm (i := 15) (by decide +kernel))) (hs _ (by decide +kernel)) (fun a h => Nat.not_le.mpr h), vx_Zqof (hts _ (tm (i := 541) (by decide +kernel))) (hts _ (tm (i := 15) (by decide +kernel))) (hs _ (by decide +kernel)) (fun a h => Nat.not_le.mpr h)⟩
set_option maxHeartbeats 8000000 in
set_option maxRecDepth 100000 in
/-- THE LAW, from its entry -/
theorem whole_start {p : Program} {e : Env} {s : State} {m : MethodId} {below : List Frame} {meth : Method} {c : Code} (l : Launch) (hflags : l.flags = flags0) {b L : Nat} {xs : Nat → Int32} (hL : L ≤ 8) (C0 : lw_At p s m meth c b L xs) : W p l e room_1 s m #[Value.ref b] below meth c s.heap [] 0 0 (lw_Z below #[Value.ref b] s) (entryFrame m ([Value.ref b] : List Value).toArray 7) := by
  obtain ⟨hx, hb, hr, hml, hown, hts0, hX, hbl, hlocks, hgv⟩ := id C0
  have hfl : l.stackTraces = false := by
    unfold Launch.stackTraces
    rw [hflags]
    decide +kernel
  have hown : s.vm.findClass RL = some m.cls := hown
  have hts : ∀ w ∈ gU, w.before #[Value.ref b] s = true := fun w h => hts0 w (gU_in h)
  have hE := law_env hts0 hgv
  have hZ0 := law_sta hts0 hgv
  obtain ⟨A, hAd⟩ : ∃ A : Nat → Prop, A = fun q : Nat => s.heap.size ≤ q := ⟨_, rfl⟩
  have hZ : gZ A s := by rw [hAd]; exact hZ0
  have hA : ∀ q : Nat, s.heap.size ≤ q → A q := fun q h => by rw [hAd]; exact h
  have hAo : ∀ q : Nat, A q → s.heap.size ≤ q := fun q h => by rw [hAd] at h; exact h
  have hbA : ¬ A b := fun h => absurd (hAo b h) (Nat.not_le.mpr hbl)
  obtain ⟨c0, iS0, hKn0⟩ := u_known (C := RX0) (T := TX0) (N := 4) (n := 4) hts gX0 (hts0 _ (tm (i := 111) (by decide +kernel)))
  obtain ⟨c1, iS1, hKn1⟩ := u_known (C := RX1) (T := TX1) (N := 8) (n := 8) hts gX1 (hts0 _ (tm (i := 312) (by decide +kernel)))
  obtain ⟨c2, iS2, hKn2⟩ := u_known (C := RX2) (T := TX2) (N := 3) (n := 3) hts gX2 (hts0 _ (tm (i := 294) (by decide +kernel)))
  obtain ⟨c3, iS3, hKn3⟩ := u_known (C := RX3) (T := TX3) (N := 4) (n := 4) hts gX3 (hts0 _ (tm (i := 148) (by decide +kernel)))
  obtain ⟨c4, iS4, hKn4⟩ := u_known (C := RX4) (T := TX4) (N := 17) (n := 17) hts gX4 (hts0 _ (tm (i := 417) (by decide +kernel)))
  obtain ⟨c5, iS5, hKn5⟩ := u_known (C := RX5) (T := TX5) (N := 14) (n := 14) hts gX5 (hts0 _ (tm (i := 141) (by decide +kernel)))
  obtain ⟨c6, iS6, hKn6⟩ := u_known (C := RX6) (T := TX6) (N := 9) (n := 9) hts gX6 (hts0 _ (tm (i := 228) (by decide +kernel)))
  obtain ⟨c7, iS7, hKn7⟩ := u_known (C := RX7) (T := TX7) (N := 6) (n := 6) hts gX7 (hts0 _ (tm (i := 83) (by decide +kernel)))
  obtain ⟨c8, iS8, hKn8⟩ := u_known (C := RX8) (T := TX8) (N := 3) (n := 3) hts gX8 (hts0 _ (tm (i := 234) (by decide +kernel)))
  obtain ⟨c9, iS9, hKn9⟩ := u_known (C := RX9) (T := TX9) (N := 19) (n := 19) hts gX9 (hts0 _ (tm (i := 288) (by decide +kernel)))
  obtain ⟨c10, iS10, hKn10⟩ := u_known (C := RX10) (T := TX10) (N := 11) (n := 11) hts gX10 (hts0 _ (tm (i := 32) (by decide +kernel)))
  obtain ⟨c11, iS11, hKn11⟩ := u_known (C := RX11) (T := TX11) (N := 7) (n := 7) hts gX11 (hts0 _ (tm (i := 24) (by decide +kernel)))
  obtain ⟨c12, iS12, hKn12⟩ := u_known (C := RX12) (T := TX12) (N := 47) (n := 47) hts gX12 (hts0 _ (tm (i := 1245) (by decide +kernel)))
  obtain ⟨dC, dI, hKc⟩ : ∃ (dC : Nat → ClassId) (dI : Nat → Nat → Nat), ∀ (k : Nat) (q : vw_C), vwCl[k]? = some q → u_Kn s q.1 q.2.1 q.2.2 (dC k) (dI k) := by
    refine ⟨fun k => ([c0, c1, c2, c3, c4, c5, c6, c7, c8, c9, c10, c11, c12] : List ClassId).getD k c0, fun k => ([iS0, iS1, iS2, iS3, iS4, iS5, iS6, iS7, iS8, iS9, iS10, iS11, iS12] : List (Nat → Nat)).getD k iS0, ?_⟩
    intro k q hq
    match k, hq with
    | 0, hq => cases hq; exact hKn0
    | 1, hq => cases hq; exact hKn1
    | 2, hq => cases hq; exact hKn2
    | 3, hq => cases hq; exact hKn3
    | 4, hq => cases hq; exact hKn4
    | 5, hq => cases hq; exact hKn5
    | 6, hq => cases hq; exact hKn6
    | 7, hq => cases hq; exact hKn7
    | 8, hq => cases hq; exact hKn8
    | 9, hq => cases hq; exact hKn9
    | 10, hq => cases hq; exact hKn10
    | 11, hq => cases hq; exact hKn11
    | 12, hq => cases hq; exact hKn12
    | k + 13, hq => simp [vwCl] at hq
  have hS : va_S A s.heap s.heap [] := va_S.rf
  have hK : va_K (dC, dI) vwCl [] s := ⟨hKc, fun k q h => by simp at h⟩
  have hP : va_P (dC, dI) vwCl [] s.heap := fun k q h => by simp at h
  have hD : va_D A [] := ⟨fun i j p q h => by simp at h, fun k q h => by simp at h⟩
  have hl := lv_entry ([.ref b]) (n := 7) (Nat.le_of_ble_eq_true rfl)
  rw [lg_entry_eq]
  generalize (lg_sl ([.ref b]) ++ List.replicate (7 - (lg_sl ([.ref b])).length) Slot.unset).toArray = ls at hl ⊢
  have hl : lv_has ls 7 [(0, .ref b)] := hl
  refine va_new (ci := 11) (fs := [.null, .null, .null, .null, .null, .null, .null]) (C := RX11) (T := TX11) (N := 7) hx hb hts gX11 tyX11 tyX11_ok hown (hts _ u_23) (hts _ u_24) (hts _ u_1) hK hP hD hS hA rfl (fun j hj => by rcases (show j = 0 ∨ j = 1 ∨ j = 2 ∨ j = 3 ∨ j = 4 ∨ j = 5 ∨ j = 6 by omega) with rfl | rfl | rfl | rfl | rfl | rfl | rfl <;> rfl) (Nat.le_of_ble_eq_true rfl) (Nat.le_of_ble_eq_true rfl) dL_law_0 (fun q1418 H1419 hP hD hS => ?_)
  have hP : va_P (dC, dI) vwCl [(q1418, .inr (11, [.null, .null, .null, .null, .null, .null, .null]))] H1419 := hP
  have hD : va_D A [(q1418, .inr (11, [.null, .null, .null, .null, .null, .null, .null]))] := hD
  refine W.widen (k := 1) (n := 7) (Nat.le_of_ble_eq_true rfl) (Nat.le_of_ble_eq_true rfl) ?_
  refine lv_dup hx hb dL_law_3 rfl ?_
  have hPc := hP.sub (ws' := [(q1418, .inr (11, [.null, .null, .null, .null, .null, .null, .null]))]) [0] rfl
  have hDc := hD.sub (ws' := [(q1418, .inr (11, [.null, .null, .null, .null, .null, .null, .null]))]) [0] (by decide) rfl
  have hKc := hK.sub (tys' := []) [] rfl
  have hFc := va_free (wc := [(q1418, .inr (11, [.null, .null, .null, .null, .null, .null, .null]))]) hD hS hA [0] rfl
  refine va_callv (va_runI (As := []) (rest := [.ref q1418]) ⟨hx, hb, hml, hown, hts⟩ (c_X11_init l dC dI H1419.size q1418) (cwI 0 hts (gC u_27) rfl rfl rfl (hts _ u_1) (hts _ u_25) (hts _ u_26) rfl (by decide +kernel) ⟨Nat.le_of_ble_eq_true rfl, Nat.le_of_ble_eq_true rfl⟩) ⟨gP_blind, gP_call hPc hKc hDc hE⟩ rfl rfl hl.1 rfl (lv_room (Nat.le_of_ble_eq_true rfl)) dL_law_4 ⟨(Nat.le_of_ble_eq_true rfl), (Nat.le_of_ble_eq_true rfl)⟩) hS (fun q _ h => hFc q h) hFc (fun u1420 t9 H1421 locs ht hvm hw hB hz1 hk1 hS => ?_)
  obtain ⟨w1423, kd1424, cK1425, gW1426, sg1427, sn1428, cS1429, gS1430, ro1431, cu1432, c11433, cC11434, gB11435, sp1436, c21437, cC21438, gB21439, gR1440, tr1441, gT1442, gX1443, hP1, hK1, hD1⟩ := hB
  rw [ht] at hP1
  have hK1 := va_K.moved hvm.symm hK1
  obtain ⟨hP, hD⟩ := va_join (wr := []) (w1 := [(q1418, .inr (11, oX w1423 sg1427 ro1431 tr1441 gX1443)), (w1423, .inr (10, oW kd1424 gW1426 0 0)), (kd1424, .inl (cK1425, 10, .inl (fun _ => 0))), (sg1427, .inr (7, oS w1423 sn1428 gS1430 0)), (sn1428, .inl (cS1429, 40, .inr (.inl (fun _ => 0)))), (ro1431, .inr (6, oR w1423 sg1427 cu1432 sp1436 gR1440 0 0)), (cu1432, .inr (8, oB c11433 gB11435)), (c11433, .inl (cC11434, 10, .inl (fun _ => 0))), (sp1436, .inr (8, oB c21437 gB21439)), (c21437, .inl (cC21438, 10, .inl (fun _ => 0))), (tr1441, .inr (9, oT w1423 sg1427 ro1431 gT1442 0 0 0 0))]) hP hD [0] [] rfl rfl (by decide) (by decide) hk1 hFc hP1 hD1
  have hK := (hK.sub (tys' := []) [] rfl).app hK1
  have hK : va_K (dC, dI) vwCl [(cK1425, .int), (cS1429, .long), (cC11434, .int), (cC21438, .int)] s := hK
  have hP : va_P (dC, dI) vwCl [(q1418, .inr (11, oX w1423 sg1427 ro1431 tr1441 gX1443)), (w1423, .inr (10, oW kd1424 gW1426 0 0)), (kd1424, .inl (cK1425, 10, .inl (fun _ => 0))), (sg1427, .inr (7, oS w1423 sn1428 gS1430 0)), (sn1428, .inl (cS1429, 40, .inr (.inl (fun _ => 0)))), (ro1431, .inr (6, oR w1423 sg1427 cu1432 sp1436 gR1440 0 0)), (cu1432, .inr (8, oB c11433 gB11435)), (c11433, .inl (cC11434, 10, .inl (fun _ => 0))), (sp1436, .inr (8, oB c21437 gB21439)), (c21437, .inl (cC21438, 10, .inl (fun _ => 0))), (tr1441, .inr (9, oT w1423 sg1427 ro1431 gT1442 0 0 0 0))] H1421 := hP
  have hD : va_D A [(q1418, .inr (11, oX w1423 sg1427 ro1431 tr1441 gX1443)), (w1423, .inr (10, oW kd1424 gW1426 0 0)), (kd1424, .inl (cK1425, 10, .inl (fun _ => 0))), (sg1427, .inr (7, oS w1423 sn1428 gS1430 0)), (sn1428, .inl (cS1429, 40, .inr (.inl (fun _ => 0)))), (ro1431, .inr (6, oR w1423 sg1427 cu1432 sp1436 gR1440 0 0)), (cu1432, .inr (8, oB c11433 gB11435)), (c11433, .inl (cC11434, 10, .inl (fun _ => 0))), (sp1436, .inr (8, oB c21437 gB21439)), (c21437, .inl (cC21438, 10, .inl (fun _ => 0))), (tr1441, .inr (9, oT w1423 sg1427 ro1431 gT1442 0 0 0 0))] := hD
  refine W.widen (k := 401) (n := 21564) (Nat.le_of_ble_eq_true rfl) (Nat.le_of_ble_eq_true rfl) ?_
  refine lv_astore_n (lv' := [(1, .ref q1418), (0, .ref b)]) hx hb dL_law_7 rfl hl (by decide) rfl (fun ls hl => ?_)
  refine va_new (ci := 12) (fs := [.int 0, .null, .int 0, .null, .null, .null, .null, .null, .null, .null, .null, .null, .null, .null, .null, .null, .null, .null, .null, .null, .null, .null, .null, .null, .null, .null, .null, .null, .null, .null, .null, .int 0, .null, .null, .int 0, .null, .null, .int 0, .null, .null, .null, .null, .int 0, .int 0, .int 0, .null, .int 0]) (C := RX12) (T := TX12) (N := 47) hx hb hts gX12 tyX12 tyX12_ok hown (hts _ u_1244) (hts _ u_1245) (hts _ u_14) hK hP hD hS hA rfl (fun j hj => by rcases (show j = 0 ∨ j = 1 ∨ j = 2 ∨ j = 3 ∨ j = 4 ∨ j = 5 ∨ j = 6 ∨ j = 7 ∨ j = 8 ∨ j = 9 ∨ j = 10 ∨ j = 11 ∨ j = 12 ∨ j = 13 ∨ j = 14 ∨ j = 15 ∨ j = 16 ∨ j = 17 ∨ j = 18 ∨ j = 19 ∨ j = 20 ∨ j = 21 ∨ j = 22 ∨ j = 23 ∨ j = 24 ∨ j = 25 ∨ j = 26 ∨ j = 27 ∨ j = 28 ∨ j = 29 ∨ j = 30 ∨ j = 31 ∨ j = 32 ∨ j = 33 ∨ j = 34 ∨ j = 35 ∨ j = 36 ∨ j = 37 ∨ j = 38 ∨ j = 39 ∨ j = 40 ∨ j = 41 ∨ j = 42 ∨ j = 43 ∨ j = 44 ∨ j = 45 ∨ j = 46 by omega) with rfl | rfl | rfl | rfl | rfl | rfl | rfl | rfl | rfl | rfl | rfl | rfl | rfl | rfl | rfl | rfl | rfl | rfl | rfl | rfl | rfl | rfl | rfl | rfl | rfl | rfl | rfl | rfl | rfl | rfl | rfl | rfl | rfl | rfl | rfl | rfl | rfl | rfl | rfl | rfl | rfl | rfl | rfl | rfl | rfl | rfl | rfl <;> rfl) (Nat.le_of_ble_eq_true rfl) (Nat.le_of_ble_eq_true rfl) dL_law_8 (fun q1444 H1445 hP hD hS => ?_)
  have hP : va_P (dC, dI) vwCl [(q1418, .inr (11, oX w1423 sg1427 ro1431 tr1441 gX1443)), (w1423, .inr (10, oW kd1424 gW1426 0 0)), (kd1424, .inl (cK1425, 10, .inl (fun _ => 0))), (sg1427, .inr (7, oS w1423 sn1428 gS1430 0)), (sn1428, .inl (cS1429, 40, .inr (.inl (fun _ => 0)))), (ro1431, .inr (6, oR w1423 sg1427 cu1432 sp1436 gR1440 0 0)), (cu1432, .inr (8, oB c11433 gB11435)), (c11433, .inl (cC11434, 10, .inl (fun _ => 0))), (sp1436, .inr (8, oB c21437 gB21439)), (c21437, .inl (cC21438, 10, .inl (fun _ => 0))), (tr1441, .inr (9, oT w1423 sg1427 ro1431 gT1442 0 0 0 0)), (q1444, .inr (12, [.int 0, .null, .int 0, .null, .null, .null, .null, .null, .null, .null, .null, .null, .null, .null, .null, .null, .null, .null, .null, .null, .null, .null, .null, .null, .null, .null, .null, .null, .null, .null, .null, .int 0, .null, .null, .int 0, .null, .null, .int 0, .null, .null, .null, .null, .int 0, .int 0, .int 0, .null, .int 0]))] H1445 := hP
  have hD : va_D A [(q1418, .inr (11, oX w1423 sg1427 ro1431 tr1441 gX1443)), (w1423, .inr (10, oW kd1424 gW1426 0 0)), (kd1424, .inl (cK1425, 10, .inl (fun _ => 0))), (sg1427, .inr (7, oS w1423 sn1428 gS1430 0)), (sn1428, .inl (cS1429, 40, .inr (.inl (fun _ => 0)))), (ro1431, .inr (6, oR w1423 sg1427 cu1432 sp1436 gR1440 0 0)), (cu1432, .inr (8, oB c11433 gB11435)), (c11433, .inl (cC11434, 10, .inl (fun _ => 0))), (sp1436, .inr (8, oB c21437 gB21439)), (c21437, .inl (cC21438, 10, .inl (fun _ => 0))), (tr1441, .inr (9, oT w1423 sg1427 ro1431 gT1442 0 0 0 0)), (q1444, .inr (12, [.int 0, .null, .int 0, .null, .null, .null, .null, .null, .null, .null, .null, .null, .null, .null, .null, .null, .null, .null, .null, .null, .null, .null, .null, .null, .null, .null, .null, .null, .null, .null, .null, .int 0, .null, .null, .int 0, .null, .null, .int 0, .null, .null, .null, .null, .int 0, .int 0, .int 0, .null, .int 0]))] := hD
  refine W.widen (k := 402) (n := 21611) (Nat.le_of_ble_eq_true rfl) (Nat.le_of_ble_eq_true rfl) ?_
  refine lv_dup hx hb dL_law_11 rfl ?_
  have hPc := hP.sub (ws' := [(q1444, .inr (12, [.int 0, .null, .int 0, .null, .null, .null, .null, .null, .null, .null, .null, .null, .null, .null, .null, .null, .null, .null, .null, .null, .null, .null, .null, .null, .null, .null, .null, .null, .null, .null, .null, .int 0, .null, .null, .int 0, .null, .null, .int 0, .null, .null, .null, .null, .int 0, .int 0, .int 0, .null, .int 0]))]) [11] rfl
  have hDc := hD.sub (ws' := [(q1444, .inr (12, [.int 0, .null, .int 0, .null, .null, .null, .null, .null, .null, .null, .null, .null, .null, .null, .null, .null, .null, .null, .null, .null, .null, .null, .null, .null, .null, .null, .null, .null, .null, .null, .null, .int 0, .null, .null, .int 0, .null, .null, .int 0, .null, .null, .null, .null, .int 0, .int 0, .int 0, .null, .int 0]))]) [11] (by decide) rfl
  have hKc := hK.sub (tys' := []) [] rfl
  have hFc := va_free (wc := [(q1444, .inr (12, [.int 0, .null, .int 0, .null, .null, .null, .null, .null, .null, .null, .null, .null, .null, .null, .null, .null, .null, .null, .null, .null, .null, .null, .null, .null, .null, .null, .null, .null, .null, .null, .null, .int 0, .null, .null, .int 0, .null, .null, .int 0, .null, .null, .null, .null, .int 0, .int 0, .int 0, .null, .int 0]))]) hD hS hA [11] rfl
  refine va_callv (va_runI (As := []) (rest := [.ref q1444]) ⟨hx, hb, hml, hown, hts⟩ (c_X12_init l dC dI H1445.size q1444) (cwI 0 hts (gC u_1248) rfl rfl rfl (hts _ u_14) (hts _ u_1246) (hts _ u_1247) rfl (by decide +kernel) ⟨Nat.le_of_ble_eq_true rfl, Nat.le_of_ble_eq_true rfl⟩) ⟨gP_blind, gP_call hPc hKc hDc hE⟩ rfl rfl hl.1 rfl (lv_room (Nat.le_of_ble_eq_true rfl)) dL_law_12 ⟨(Nat.le_of_ble_eq_true rfl), (Nat.le_of_ble_eq_true rfl)⟩) hS (fun q _ h => hFc q h) hFc (fun u1446 t9 H1447 locs ht hvm hw hB hz1 hk1 hS => ?_)
  obtain ⟨kd1449, ck1450, fa1451, cf1452, gw1453, cg1454, gM1455, hP1, hK1, hD1⟩ := hB
  rw [ht] at hP1
  have hK1 := va_K.moved hvm.symm hK1
  obtain ⟨hP, hD⟩ := va_join (wr := [(q1418, .inr (11, oX w1423 sg1427 ro1431 tr1441 gX1443)), (w1423, .inr (10, oW kd1424 gW1426 0 0)), (kd1424, .inl (cK1425, 10, .inl (fun _ => 0))), (sg1427, .inr (7, oS w1423 sn1428 gS1430 0)), (sn1428, .inl (cS1429, 40, .inr (.inl (fun _ => 0)))), (ro1431, .inr (6, oR w1423 sg1427 cu1432 sp1436 gR1440 0 0)), (cu1432, .inr (8, oB c11433 gB11435)), (c11433, .inl (cC11434, 10, .inl (fun _ => 0))), (sp1436, .inr (8, oB c21437 gB21439)), (c21437, .inl (cC21438, 10, .inl (fun _ => 0))), (tr1441, .inr (9, oT w1423 sg1427 ro1431 gT1442 0 0 0 0))]) (w1 := [(q1444, .inr (12, mM kd1449 gw1453 fa1451 gM1455 0 0 0 0 0 0 0 0 0)), (kd1449, .inl (ck1450, 10, .inl (fun _ => 0))), (fa1451, .inl (cf1452, 10, .inl (fun _ => 0))), (gw1453, .inl (cg1454, 10, .inl (fun _ => 0)))]) hP hD [11] [0, 1, 2, 3, 4, 5, 6, 7, 8, 9, 10] rfl rfl (by decide) (by decide) hk1 hFc hP1 hD1
  have hK := (hK.sub (tys' := [(cK1425, .int), (cS1429, .long), (cC11434, .int), (cC21438, .int)]) [0, 1, 2, 3] rfl).app hK1
  have hK : va_K (dC, dI) vwCl [(cK1425, .int), (cS1429, .long), (cC11434, .int), (cC21438, .int), (ck1450, .int), (cf1452, .int), (cg1454, .int)] s := hK
  have hP : va_P (dC, dI) vwCl [(q1418, .inr (11, oX w1423 sg1427 ro1431 tr1441 gX1443)), (w1423, .inr (10, oW kd1424 gW1426 0 0)), (kd1424, .inl (cK1425, 10, .inl (fun _ => 0))), (sg1427, .inr (7, oS w1423 sn1428 gS1430 0)), (sn1428, .inl (cS1429, 40, .inr (.inl (fun _ => 0)))), (ro1431, .inr (6, oR w1423 sg1427 cu1432 sp1436 gR1440 0 0)), (cu1432, .inr (8, oB c11433 gB11435)), (c11433, .inl (cC11434, 10, .inl (fun _ => 0))), (sp1436, .inr (8, oB c21437 gB21439)), (c21437, .inl (cC21438, 10, .inl (fun _ => 0))), (tr1441, .inr (9, oT w1423 sg1427 ro1431 gT1442 0 0 0 0)), (q1444, .inr (12, mM kd1449 gw1453 fa1451 gM1455 0 0 0 0 0 0 0 0 0)), (kd1449, .inl (ck1450, 10, .inl (fun _ => 0))), (fa1451, .inl (cf1452, 10, .inl (fun _ => 0))), (gw1453, .inl (cg1454, 10, .inl (fun _ => 0)))] H1447 := hP
  have hD : va_D A [(q1418, .inr (11, oX w1423 sg1427 ro1431 tr1441 gX1443)), (w1423, .inr (10, oW kd1424 gW1426 0 0)), (kd1424, .inl (cK1425, 10, .inl (fun _ => 0))), (sg1427, .inr (7, oS w1423 sn1428 gS1430 0)), (sn1428, .inl (cS1429, 40, .inr (.inl (fun _ => 0)))), (ro1431, .inr (6, oR w1423 sg1427 cu1432 sp1436 gR1440 0 0)), (cu1432, .inr (8, oB c11433 gB11435)), (c11433, .inl (cC11434, 10, .inl (fun _ => 0))), (sp1436, .inr (8, oB c21437 gB21439)), (c21437, .inl (cC21438, 10, .inl (fun _ => 0))), (tr1441, .inr (9, oT w1423 sg1427 ro1431 gT1442 0 0 0 0)), (q1444, .inr (12, mM kd1449 gw1453 fa1451 gM1455 0 0 0 0 0 0 0 0 0)), (kd1449, .inl (ck1450, 10, .inl (fun _ => 0))), (fa1451, .inl (cf1452, 10, .inl (fun _ => 0))), (gw1453, .inl (cg1454, 10, .inl (fun _ => 0)))] := hD
  refine W.widen (k := 440) (n := 44109) (Nat.le_of_ble_eq_true rfl) (Nat.le_of_ble_eq_true rfl) ?_
  refine lv_astore_n (lv' := [(2, .ref q1444), (1, .ref q1418), (0, .ref b)]) hx hb dL_law_15 rfl hl (by decide) rfl (fun ls hl => ?_)
  refine lv_iconst (v := 1) hx hb dL_law_16 (by decide) ?_
  refine va_newa (atype := .long) (ty := .long) (N' := 1) (a0 := (1, .inr (.inl (fun _ => 0)))) hx hb (hts _ u_109) rfl hK hP hD hS hA (fun _ => rfl) (by decide) (by decide) (Nat.le_of_ble_eq_true rfl) (Nat.le_of_ble_eq_true rfl) (Nat.le_of_ble_eq_true rfl) dL_law_17 (fun q1456 cA1457 H1458 hK hP hD hS => ?_)
  refine W.widen (k := 441) (n := 44110) (Nat.le_of_ble_eq_true rfl) (Nat.le_of_ble_eq_true rfl) ?_
  have hK : va_K (dC, dI) vwCl [(cK1425, .int), (cS1429, .long), (cC11434, .int), (cC21438, .int), (ck1450, .int), (cf1452, .int), (cg1454, .int), (cA1457, .long)] s := hK
  have hP : va_P (dC, dI) vwCl [(q1418, .inr (11, oX w1423 sg1427 ro1431 tr1441 gX1443)), (w1423, .inr (10, oW kd1424 gW1426 0 0)), (kd1424, .inl (cK1425, 10, .inl (fun _ => 0))), (sg1427, .inr (7, oS w1423 sn1428 gS1430 0)), (sn1428, .inl (cS1429, 40, .inr (.inl (fun _ => 0)))), (ro1431, .inr (6, oR w1423 sg1427 cu1432 sp1436 gR1440 0 0)), (cu1432, .inr (8, oB c11433 gB11435)), (c11433, .inl (cC11434, 10, .inl (fun _ => 0))), (sp1436, .inr (8, oB c21437 gB21439)), (c21437, .inl (cC21438, 10, .inl (fun _ => 0))), (tr1441, .inr (9, oT w1423 sg1427 ro1431 gT1442 0 0 0 0)), (q1444, .inr (12, mM kd1449 gw1453 fa1451 gM1455 0 0 0 0 0 0 0 0 0)), (kd1449, .inl (ck1450, 10, .inl (fun _ => 0))), (fa1451, .inl (cf1452, 10, .inl (fun _ => 0))), (gw1453, .inl (cg1454, 10, .inl (fun _ => 0))), (q1456, .inl (cA1457, 1, .inr (.inl (fun _ => 0))))] H1458 := hP
  have hD : va_D A [(q1418, .inr (11, oX w1423 sg1427 ro1431 tr1441 gX1443)), (w1423, .inr (10, oW kd1424 gW1426 0 0)), (kd1424, .inl (cK1425, 10, .inl (fun _ => 0))), (sg1427, .inr (7, oS w1423 sn1428 gS1430 0)), (sn1428, .inl (cS1429, 40, .inr (.inl (fun _ => 0)))), (ro1431, .inr (6, oR w1423 sg1427 cu1432 sp1436 gR1440 0 0)), (cu1432, .inr (8, oB c11433 gB11435)), (c11433, .inl (cC11434, 10, .inl (fun _ => 0))), (sp1436, .inr (8, oB c21437 gB21439)), (c21437, .inl (cC21438, 10, .inl (fun _ => 0))), (tr1441, .inr (9, oT w1423 sg1427 ro1431 gT1442 0 0 0 0)), (q1444, .inr (12, mM kd1449 gw1453 fa1451 gM1455 0 0 0 0 0 0 0 0 0)), (kd1449, .inl (ck1450, 10, .inl (fun _ => 0))), (fa1451, .inl (cf1452, 10, .inl (fun _ => 0))), (gw1453, .inl (cg1454, 10, .inl (fun _ => 0))), (q1456, .inl (cA1457, 1, .inr (.inl (fun _ => 0))))] := hD
  refine lv_astore_n (lv' := [(3, .ref q1456), (2, .ref q1444), (1, .ref q1418), (0, .ref b)]) hx hb dL_law_19 rfl hl (by decide) rfl (fun ls hl => ?_)
  refine lv_iconst (v := 0) hx hb dL_law_20 (by decide) ?_
  refine lv_istore (lv' := [(4, .int 0), (3, .ref q1456), (2, .ref q1444), (1, .ref q1418), (0, .ref b)]) hx hb dL_law_21 hl (by decide) rfl (fun ls hl => ?_)
  refine lv_iload hx hb dL_law_23 (lv_at hl 0 rfl) ?_
  refine lv_aload_n hx hb dL_law_25 rfl (lv_at hl 4 rfl) ?_
  refine va_slen hx hb hX hbl hbA hS dL_law_26 ?_
  refine lv_bipush (v := 8) hx hb dL_law_27 (by decide) ?_
  refine lv_isub hx hb dL_law_29 ?_
  by_cases hL8 : L = 8
  · refine lv_icmp_gt (tgt := 1883) hx hb dL_law_30 (by decide) (fun h9 => absurd h9 (by rw [hL8]; decide)) (fun _ => ?_)
    refine lv_aload_n hx hb dL_law_33 rfl (lv_at hl 4 rfl) ?_
    refine lv_iload hx hb dL_law_34 (lv_at hl 0 rfl) ?_
    refine va_sld hx hb hX hbl hbA hS (by rw [hL8]; unfold vp_in; decide) dL_law_36 ?_
    refine lv_bipush (v := 31) hx hb dL_law_37 (by decide) ?_
    refine lv_iand hx hb dL_law_39 ?_
    obtain ⟨j, hj, ej⟩ := pk_andE (xs (0 : Int32).toNatClampNeg) (m := 31) 5 (by decide)
    have hj : j < 32 := hj
    rw [ej]
    rcases (show j = 0 ∨ j = 1 ∨ j = 2 ∨ j = 3 ∨ j = 4 ∨ j = 5 ∨ j = 6 ∨ j = 7 ∨ j = 8 ∨ j = 9 ∨ j = 10 ∨ j = 11 ∨ j = 12 ∨ j = 13 ∨ j = 14 ∨ j = 15 ∨ j = 16 ∨ j = 17 ∨ j = 18 ∨ j = 19 ∨ j = 20 ∨ j = 21 ∨ j = 22 ∨ j = 23 ∨ j = 24 ∨ j = 25 ∨ j = 26 ∨ j = 27 ∨ j = 28 ∨ j = 29 ∨ j = 30 ∨ j = 31 by omega) with rfl | rfl | rfl | rfl | rfl | rfl | rfl | rfl | rfl | rfl | rfl | rfl | rfl | rfl | rfl | rfl | rfl | rfl | rfl | rfl | rfl | rfl | rfl | rfl | rfl | rfl | rfl | rfl | rfl | rfl | rfl | rfl
    · exact lv_tableIn (off := 112) (tgt := 152) hx hb dL_law_40 (by decide) (by decide) (by decide) (by decide) (law_c0 hfl hx hb hr hml hown hts hX hbl hlocks hE hZ hA hbA hAo hL8 _ _ hK hP hD hS ls (lv_sub hl [0, 1, 2, 3, 4] rfl))
    · exact lv_tableIn (off := 168) (tgt := 208) hx hb dL_law_40 (by decide) (by decide) (by decide) (by decide) (law_c1 hfl hx hb hr hml hown hts hX hbl hlocks hE hZ hA hbA hAo hL8 _ _ hK hP hD hS ls (lv_sub hl [0, 1, 2, 3, 4] rfl))
    · exact lv_tableIn (off := 236) (tgt := 276) hx hb dL_law_40 (by decide) (by decide) (by decide) (by decide) (law_c2 hfl hx hb hr hml hown hts hX hbl hlocks hE hZ hA hbA hAo hL8 _ _ hK hP hD hS ls (lv_sub hl [0, 1, 2, 3, 4] rfl))
    · exact lv_tableIn (off := 299) (tgt := 339) hx hb dL_law_40 (by decide) (by decide) (by decide) (by decide) (law_c3 hfl hx hb hr hml hown hts hX hbl hlocks hE hZ hA hbA hAo hL8 _ _ hK hP hD hS ls (lv_sub hl [0, 1, 2, 3, 4] rfl))
    · exact lv_tableIn (off := 362) (tgt := 402) hx hb dL_law_40 (by decide) (by decide) (by decide) (by decide) (law_c4 hfl hx hb hr hml hown hts hX hbl hlocks hE hZ hA hbA hAo hL8 _ _ hK hP hD hS ls (lv_sub hl [0, 1, 2, 3, 4] rfl))
    · exact lv_tableIn (off := 430) (tgt := 470) hx hb dL_law_40 (by decide) (by decide) (by decide) (by decide) (law_c5 hfl hx hb hr hml hown hts hX hbl hlocks hE hZ hA hbA hAo hL8 _ _ hK hP hD hS ls (lv_sub hl [0, 1, 2, 3, 4] rfl))
    · exact lv_tableIn (off := 505) (tgt := 545) hx hb dL_law_40 (by decide) (by decide) (by decide) (by decide) (law_c6 hfl hx hb hr hml hown hts hX hbl hlocks hE hZ hA hbA hAo hL8 _ _ hK hP hD hS ls (lv_sub hl [0, 1, 2, 3, 4] rfl))
    · exact lv_tableIn (off := 585) (tgt := 625) hx hb dL_law_40 (by decide) (by decide) (by decide) (by decide) (law_c7 hfl hx hb hr hml hown hts hX hbl hlocks hE hZ hA hbA hAo hL8 _ _ hK hP hD hS ls (lv_sub hl [0, 1, 2, 3, 4] rfl))
    · exact lv_tableIn (off := 653) (tgt := 693) hx hb dL_law_40 (by decide) (by decide) (by decide) (by decide) (law_c8 hfl hx hb hr hml hown hts hX hbl hlocks hE hZ hA hbA hAo hL8 _ _ hK hP hD hS ls (lv_sub hl [0, 1, 2, 3, 4] rfl))
    · exact lv_tableIn (off := 745) (tgt := 785) hx hb dL_law_40 (by decide) (by decide) (by decide) (by decide) (law_c9 hfl hx hb hr hml hown hts hX hbl hlocks hE hZ hA hbA hAo hL8 _ _ hK hP hD hS ls (lv_sub hl [0, 1, 2, 3, 4] rfl))
    · exact lv_tableIn (off := 893) (tgt := 933) hx hb dL_law_40 (by decide) (by decide) (by decide) (by decide) (law_c10 hfl hx hb hr hml hown hts hX hbl hlocks hE hZ hA hbA hAo hL8 _ _ hK hP hD hS ls (lv_sub hl [0, 1, 2, 3, 4] rfl))
    · exact lv_tableIn (off := 984) (tgt := 1024) hx hb dL_law_40 (by decide) (by decide) (by decide) (by decide) (law_c11 hfl hx hb hr hml hown hts hX hbl hlocks hE hZ hA hbA hAo hL8 _ _ hK hP hD hS ls (lv_sub hl [0, 1, 2, 3, 4] rfl))
    · exact lv_tableIn (off := 1064) (tgt := 1104) hx hb dL_law_40 (by decide) (by decide) (by decide) (by decide) (law_c12 hfl hx hb hr hml hown hts hX hbl hlocks hE hZ hA hbA hAo hL8 _ _ hK hP hD hS ls (lv_sub hl [0, 1, 2, 3, 4] rfl))
    · exact lv_tableIn (off := 1144) (tgt := 1184) hx hb dL_law_40 (by decide) (by decide) (by decide) (by decide) (law_c13 hfl hx hb hr hml hown hts hX hbl hlocks hE hZ hA hbA hAo hL8 _ _ hK hP hD hS ls (lv_sub hl [0, 1, 2, 3, 4] rfl))
    · exact lv_tableIn (off := 1200) (tgt := 1240) hx hb dL_law_40 (by decide) (by decide) (by decide) (by decide) (law_c14 hfl hx hb hr hml hown hts hX hbl hlocks hE hZ hA hbA hAo hL8 _ _ hK hP hD hS ls (lv_sub hl [0, 1, 2, 3, 4] rfl))
    · exact lv_tableIn (off := 1256) (tgt := 1296) hx hb dL_law_40 (by decide) (by decide) (by decide) (by decide) (law_c15 hfl hx hb hr hml hown hts hX hbl hlocks hE hZ hA hbA hAo hL8 _ _ hK hP hD hS ls (lv_sub hl [0, 1, 2, 3, 4] rfl))
    · exact lv_tableIn (off := 1312) (tgt := 1352) hx hb dL_law_40 (by decide) (by decide) (by decide) (by decide) (law_c16 hfl hx hb hr hml hown hts hX hbl hlocks hE hZ hA hbA hAo hL8 _ _ hK hP hD hS ls (lv_sub hl [0, 1, 2, 3, 4] rfl))
    · exact lv_tableIn (off := 1368) (tgt := 1408) hx hb dL_law_40 (by decide) (by decide) (by decide) (by decide) (law_c17 hfl hx hb hr hml hown hts hX hbl hlocks hE hZ hA hbA hAo hL8 _ _ hK hP hD hS ls (lv_sub hl [0, 1, 2, 3, 4] rfl))
    · exact lv_tableIn (off := 1381) (tgt := 1421) hx hb dL_law_40 (by decide) (by decide) (by decide) (by decide) (law_c18 hfl hx hb hr hml hown hts hX hbl hlocks hE hZ hA hbA hAo hL8 _ _ hK hP hD hS ls (lv_sub hl [0, 1, 2, 3, 4] rfl))
    · exact lv_tableIn (off := 1449) (tgt := 1489) hx hb dL_law_40 (by decide) (by decide) (by decide) (by decide) (law_c19 hfl hx hb hr hml hown hts hX hbl hlocks hE hZ hA hbA hAo hL8 _ _ hK hP hD hS ls (lv_sub hl [0, 1, 2, 3, 4] rfl))
    · exact lv_tableIn (off := 1529) (tgt := 1569) hx hb dL_law_40 (by decide) (by decide) (by decide) (by decide) (law_c20 hfl hx hb hr hml hown hts hX hbl hlocks hE hZ hA hbA hAo hL8 _ _ hK hP hD hS ls (lv_sub hl [0, 1, 2, 3, 4] rfl))
    · exact lv_tableIn (off := 1597) (tgt := 1637) hx hb dL_law_40 (by decide) (by decide) (by decide) (by decide) (law_c21 hfl hx hb hr hml hown hts hX hbl hlocks hE hZ hA hbA hAo hL8 _ _ hK hP hD hS ls (lv_sub hl [0, 1, 2, 3, 4] rfl))
    · exact lv_tableIn (off := 1665) (tgt := 1705) hx hb dL_law_40 (by decide) (by decide) (by decide) (by decide) (law_c22 hfl hx hb hr hml hown hts hX hbl hlocks hE hZ hA hbA hAo hL8 _ _ hK hP hD hS ls (lv_sub hl [0, 1, 2, 3, 4] rfl))
    · exact lv_tableIn (off := 1745) (tgt := 1785) hx hb dL_law_40 (by decide) (by decide) (by decide) (by decide) (law_c23 hfl hx hb hr hml hown hts hX hbl hlocks hE hZ hA hbA hAo hL8 _ _ hK hP hD hS ls (lv_sub hl [0, 1, 2, 3, 4] rfl))
    · refine lv_tableOut (tgt := 1877) hx hb dL_law_40 (by decide) (by decide) ?_
      refine W.widen (k := 600002) (n := 7302232) (Nat.le_of_ble_eq_true rfl) (Nat.le_of_ble_eq_true rfl) ?_
      exact law_tail hfl hx hb hr hml hown hts hX hbl hlocks hE hZ hA hbA hAo hL8 hS (lv_sub hl [4, 0] rfl)
    · refine lv_tableOut (tgt := 1877) hx hb dL_law_40 (by decide) (by decide) ?_
      refine W.widen (k := 600002) (n := 7302232) (Nat.le_of_ble_eq_true rfl) (Nat.le_of_ble_eq_true rfl) ?_
      exact law_tail hfl hx hb hr hml hown hts hX hbl hlocks hE hZ hA hbA hAo hL8 hS (lv_sub hl [4, 0] rfl)
    · refine lv_tableOut (tgt := 1877) hx hb dL_law_40 (by decide) (by decide) ?_
      refine W.widen (k := 600002) (n := 7302232) (Nat.le_of_ble_eq_true rfl) (Nat.le_of_ble_eq_true rfl) ?_
      exact law_tail hfl hx hb hr hml hown hts hX hbl hlocks hE hZ hA hbA hAo hL8 hS (lv_sub hl [4, 0] rfl)
    · refine lv_tableOut (tgt := 1877) hx hb dL_law_40 (by decide) (by decide) ?_
      refine W.widen (k := 600002) (n := 7302232) (Nat.le_of_ble_eq_true rfl) (Nat.le_of_ble_eq_true rfl) ?_
      exact law_tail hfl hx hb hr hml hown hts hX hbl hlocks hE hZ hA hbA hAo hL8 hS (lv_sub hl [4, 0] rfl)
    · refine lv_tableOut (tgt := 1877) hx hb dL_law_40 (by decide) (by decide) ?_
      refine W.widen (k := 600002) (n := 7302232) (Nat.le_of_ble_eq_true rfl) (Nat.le_of_ble_eq_true rfl) ?_
      exact law_tail hfl hx hb hr hml hown hts hX hbl hlocks hE hZ hA hbA hAo hL8 hS (lv_sub hl [4, 0] rfl)
    · refine lv_tableOut (tgt := 1877) hx hb dL_law_40 (by decide) (by decide) ?_
      refine W.widen (k := 600002) (n := 7302232) (Nat.le_of_ble_eq_true rfl) (Nat.le_of_ble_eq_true rfl) ?_
      exact law_tail hfl hx hb hr hml hown hts hX hbl hlocks hE hZ hA hbA hAo hL8 hS (lv_sub hl [4, 0] rfl)
    · refine lv_tableOut (tgt := 1877) hx hb dL_law_40 (by decide) (by decide) ?_
      refine W.widen (k := 600002) (n := 7302232) (Nat.le_of_ble_eq_true rfl) (Nat.le_of_ble_eq_true rfl) ?_
      exact law_tail hfl hx hb hr hml hown hts hX hbl hlocks hE hZ hA hbA hAo hL8 hS (lv_sub hl [4, 0] rfl)
    · refine lv_tableOut (tgt := 1877) hx hb dL_law_40 (by decide) (by decide) ?_
      refine W.widen (k := 600002) (n := 7302232) (Nat.le_of_ble_eq_true rfl) (Nat.le_of_ble_eq_true rfl) ?_
      exact law_tail hfl hx hb hr hml hown hts hX hbl hlocks hE hZ hA hbA hAo hL8 hS (lv_sub hl [4, 0] rfl)
  · have h8 : L < 8 := Nat.lt_of_le_of_ne hL hL8
    refine lv_icmp_gt (tgt := 1883) hx hb dL_law_30 (by decide) (fun _ => ?_) (fun h9 => absurd (lt8 L h8) h9)
    refine lv_iconst (v := 1) hx hb dL_law_1883 (by decide) ?_
    refine va_forget (fun q hq => hAo _ (hS.2.2 q hq)) ?_
    refine W.widen (k := 600002) (n := 7302232) (Nat.le_of_ble_eq_true rfl) (Nat.le_of_ble_eq_true rfl) ?_
    exact lw_ret hx hb hr hlocks dL_law_1884
-- ===== YOUR PART ENDS =====
set_option maxHeartbeats 4000000 in
theorem lw_walk (l : Launch) (hflags : l.flags = flags0) (b : Addr) (xs : List Int32) : MetFree l x (headSpec (Jvm.Cond.code x code maxLocals ret :: tables_1) room_1) (lw_P b xs) (fun _ _ _ _ _ => True) lw_Q := by
  refine MetFree.of_bodyS (code := code) (maxLocals := maxLocals) (ret := ret) (by decide) ?_ ?_
  · intro args s m h hn
    obtain ⟨meth, c, h1, h2, h3, h4, h5, h6, -, -⟩ := Cond.code_spec hn (atoms_spec (ws := Jvm.Cond.code x code maxLocals ret :: tables_1) h _ List.mem_cons_self)
    exact ⟨meth, c, h1, h2, h3, h4, h5, h6⟩
  · intro p e s m args below meth c s₁ B hml0 hP _
    obtain ⟨rfl, hx, hbd, hgv⟩ := hP
    obtain ⟨scr, harrAt, hlist, hof, hsmall⟩ := hx
    obtain ⟨hcb, hkn, -, -⟩ := State.arrayAt?_spec harrAt
    have hown : s.vm.findClass R_law = some m.cls := findClass_of_methodNamed B.named
    have hts0 : ∀ c ∈ (Jvm.Cond.code x code maxLocals ret :: tables_1), c.before #[Value.ref b] s = true := atoms_spec (ws := Jvm.Cond.code x code maxLocals ret :: tables_1) B.pre
    have hts : ∀ w ∈ lw_tbl, w.before #[Value.ref b] s = true := k2_hts_sels lw_privs (fun w hw => hts0 w (List.mem_cons_of_mem _ hw)) lw_privs_ok
    have hml : c.maxLocals = 7 := B.maxLocals_eq (hts0 _ List.mem_cons_self)
    have X₀ : Stand p l e room_1 s m #[Value.ref b] below meth c s₁ [] 0 0 := Stand.of_body B
    have hh0 : s₁.heap = s.heap := by rw [B.state]; rfl
    have hsz : scr.slots.size = xs.length := by rw [← Array.length_toList, hlist, List.length_map]
    have hval : ∀ j : Nat, j < xs.length → scr.slots[j]? = some (.int (xs.getD j 0)) := fun j hj => by
      rw [← Array.getElem?_toList, hlist]
      simp [hj]
    have hbl : b < s.heap.size := (Array.getElem?_eq_some_iff.mp hcb).1
    have hX : va_X b xs.length (fun j => xs.getD j 0) s s.heap := ⟨scr, hcb, hof, hkn, hsz, hval⟩
    have K : W p l e room_1 s m #[Value.ref b] below meth c s₁.heap [] 0 0 (lw_Z below #[Value.ref b] s) (entryFrame m ([Value.ref b] : List Value).toArray 7) := by
      rw [hh0]
      exact whole_start l hflags hbd ⟨B.exec, B.bytes, B.returns, hml, hown, hts, hX, hbl, B.notSynchronized, hgv⟩
    obtain ⟨t, a1, o, b1, b2, b3⟩ := K s₁ rfl X₀
    exact ⟨t, o, a1, b1, b2, b3⟩
theorem lw_pre_spec {args : Array Value} {s : State} (h : (Jvm.Cond.and given_1 narrow_1).before args s = true) (hr : rest_1_c.before args s = true) : ∃ (b : Addr) (xs : List Int32), lw_P b xs args s := by
  have hs := flat_of_before _ h
  have hq := flat_of_before _ hr
  have hc : (Cond.count 1).before args s = true := hs _ (by decide +kernel)
  have harr : (Cond.arrayOf (.arg 0) .int).before args s = true := hs _ (by decide +kernel)
  have hle : (Cond.le (.length (.arg 0)) (.int 8)).before args s = true := hs _ (by decide +kernel)
  have hlen : (Cond.isInt (.length (.arg 0))).before args s = true := hq _ (by decide +kernel)
  have hall : (Cond.all (.arg 0) (.isInt (.elem (.arg 0) (.index 0)))).before args s = true := hq _ (by decide +kernel)
  obtain ⟨b, xs, hb, hx⟩ := State.ints_of_pre rfl harr hlen hall
  have hsm : xs.length < 2 ^ 31 := hx.choose_spec.2.2.2
  have hev : (Term.length (.arg 0)).eval args s none [] s = some (.int xs.length.toInt32) := hx.length_eval hb
  have hv := Cond.le_ints hev (show (Term.int 8).eval args s none [] s = some (.int 8) from rfl)
  have hd : xs.length.toInt32 ≤ 8 := by
    simpa [Cond.before, Cond.holds, hv] using hle
  have hN : xs.length ≤ 8 := (Int32.ofNat_le_ofNat hsm (by decide)).mp (show Int32.ofNat xs.length ≤ Int32.ofNat 8 from hd)
  exact ⟨b, xs, Cond.one_arg hc (show args[0]? = some (.ref b) from hb), hx, hN, h⟩
theorem lw_comes (l : Launch) (hflags : l.flags = flags0) : Comes l x (Jvm.Cond.code x code maxLocals ret :: tables_1) room_1 (fun tb e args s => Calls_1 tb e args s ∧ rest_1 tb e args s ∧ Pre_1 tb e args s)
    (fun _ _ args s o t => lw_Q args s o t) := by
  intro p e ha hc hk s m args below hf hfit hheap happ hpre
  obtain ⟨b, xs, hP⟩ := lw_pre_spec hpre.2.2 hpre.2.1
  obtain ⟨k, o, h1, h2, h3, hQ⟩ := lw_walk l hflags b xs p e ha hc hk s m args below hf ((Spec.applies_iff_loose hf).mp happ).1 hP trivial
  exact ⟨k, o, h1, h2, h3, hQ⟩
theorem lw_frame {s t : State} {o : Outcome} {args : Array Value} (h : Framed s o t [] 600002 7302232) :
    Framed s o t (fieldLocs frame_1_writes args s ++ arrayLocs frame_1_arrays args s ++ staticLocs frame_1_statics s) 600002 7302232 := h
theorem lw_limb (L : Cond) (hL : ∀ (args : Array Value) (s t : State), L.after args s (.returned (some (.int 1))) t = true) :
    ArmFor flags0 classFile x code maxLocals ret World_1 tables_1 room_1 Calls_1 rest_1 Pre_1
      (fun tb e a s o t => postC L tb e a s o t ∧ Framed s o t (fieldLocs frame_1_writes a s ++ arrayLocs frame_1_arrays a s ++ staticLocs frame_1_statics s) 600002 7302232) := by
  intro l hflags _ _ p e ha hc hk s m args below hf hfit hheap happ hpre
  obtain ⟨k, o, h1, h2, h3, rfl, hF⟩ := lw_comes l hflags p e ha hc hk s m args below hf hfit hheap happ hpre
  exact ⟨k, _, h1, h2, h3, hL args s _, lw_frame hF⟩
theorem i_vc : Claimed_1_1 ∧ Claimed_1_2 := ⟨lw_limb limb_1_1 (fun args s t => by simp [limb_1_1, Cond.after, Cond.holds, Cond.value]), lw_limb limb_1_2 (fun args s t => Cond.after_iff.mpr (by
  first | (rw [show limb_1_2 = Cond.eq .result (.int 1) from rfl, Cond.eq_ints (x := 1) (y := 1) rfl rfl]; simp; done) | (simp [limb_1_2, Cond.value, Term.eval]; done)))⟩

