/-! the small kit of this claim: one list of words for all methods; facts of the state that all carry; reads that change nothing -/
/-- the good words of the tables: every method's list is its own code and these -/
def gU : List Cond := lw_tbl.filter goodWord
theorem gm {w : Cond} {i : Nat} (h : tables_1[i]? = some w) (g : goodWord w = true) : w ∈ gU := List.mem_filter.mpr ⟨List.mem_append_right _ (List.mem_of_getElem? h), g⟩
theorem gp {q : MethodName × Nat} {i : Nat} (h : lw_privs[i]? = some q) (g : goodWord (Cond.selects q.1.cls q.1 q.1) = true) : Cond.selects q.1.cls q.1 q.1 ∈ gU := List.mem_filter.mpr ⟨List.mem_append_left _ (List.mem_map.mpr ⟨q, List.mem_of_getElem? h, rfl⟩), g⟩
theorem gU_in {w : Cond} (h : w ∈ gU) : w ∈ lw_tbl := (List.mem_filter.mp h).1
theorem gU_good {w : Cond} (h : w ∈ gU) : (w.onTables && w.keeps) = true ∨ ∃ ty, w = .arrayClass ty := good_of_word (List.mem_filter.mp h).2
theorem gW {ws : List Cond} (h : ∀ w ∈ ws, w ∈ gU) : GoodIn gU ws := fun w hw => ⟨h w hw, gU_good (h w hw)⟩
theorem gC {w : Cond} (h : w ∈ gU) : GoodIn gU (w :: gU) := gW fun _ hw => (List.mem_cons.mp hw).elim (fun e => e ▸ h) id
theorem gV {own C : String} {k : Nat} {y : MethodName} {w : Cond} (h1 : Cond.methodLink own k y ∈ gU) (h2 : Cond.instanceMethod y ∈ gU) (h3 : Cond.selects C y y ∈ gU) (h4 : Cond.initialized C ∈ gU) (h5 : w ∈ gU) : GoodIn gU (wsV own k C y (w :: gU)) := gW fun z hz => by
  unfold wsV at hz
  rcases List.mem_append.mp hz with hz | hz
  · simp only [List.mem_cons, List.not_mem_nil, or_false] at hz
    rcases hz with rfl | rfl | rfl | rfl <;> assumption
  · exact (List.mem_cons.mp hz).elim (fun e => e ▸ h5) id
theorem gS {own : String} {k : Nat} {y : MethodName} {w : Cond} (h1 : Cond.methodLink own k y ∈ gU) (h2 : Cond.static y ∈ gU) (h4 : Cond.initialized y.cls ∈ gU) (h5 : w ∈ gU) : GoodIn gU (va_wsS own k y (w :: gU)) := gW fun z hz => by
  unfold va_wsS at hz
  rcases List.mem_append.mp hz with hz | hz
  · simp only [List.mem_cons, List.not_mem_nil, or_false] at hz
    rcases hz with rfl | rfl | rfl <;> assumption
  · exact (List.mem_cons.mp hz).elim (fun e => e ▸ h5) id
/-- the words that a table's link may change: carried as facts -/
def gN : List Cond := [Cond.fieldLinkNest RX11 232 "DrystoneSimnet$Wiring" "cables" "I" RX11, Cond.fieldLinkNest RX11 237 "DrystoneSimnet$Traffic" "packets" "I" RX11, Cond.fieldLinkNest RX11 149 "DrystoneSimnet$Traffic" "now" "I" RX11, Cond.fieldLinkNest RX11 187 "DrystoneSimnet$Traffic" "onCables" "I" RX11, Cond.fieldLinkNest RX6 63 "DrystoneSimnet$Wiring" "boxes" "I" RX11, Cond.methodLinkNest RX10 50 yX11_boxOf RX11, Cond.methodLinkNest RX10 57 yX11_ownNumber RX11, Cond.methodLinkNest RX9 44 yX1_init RX11, Cond.castable "java/lang/IndexOutOfBoundsException" "java/lang/IndexOutOfBoundsException", Cond.castable "java/lang/IllegalArgumentException" "java/lang/IllegalArgumentException", Cond.declares ⟨"java/lang/RuntimeException", "<init>", "(Ljava/lang/String;)V"⟩, Cond.declares ⟨"java/lang/Exception", "<init>", "(Ljava/lang/String;)V"⟩, Cond.declares ⟨"java/lang/Throwable", "<init>", "(Ljava/lang/String;)V"⟩]
theorem n_0 : Cond.fieldLinkNest RX11 232 "DrystoneSimnet$Wiring" "cables" "I" RX11 ∈ gN := List.mem_of_getElem? (i := 0) rfl
theorem n_1 : Cond.fieldLinkNest RX11 237 "DrystoneSimnet$Traffic" "packets" "I" RX11 ∈ gN := List.mem_of_getElem? (i := 1) rfl
theorem n_2 : Cond.fieldLinkNest RX11 149 "DrystoneSimnet$Traffic" "now" "I" RX11 ∈ gN := List.mem_of_getElem? (i := 2) rfl
theorem n_3 : Cond.fieldLinkNest RX11 187 "DrystoneSimnet$Traffic" "onCables" "I" RX11 ∈ gN := List.mem_of_getElem? (i := 3) rfl
theorem n_4 : Cond.fieldLinkNest RX6 63 "DrystoneSimnet$Wiring" "boxes" "I" RX11 ∈ gN := List.mem_of_getElem? (i := 4) rfl
theorem n_5 : Cond.methodLinkNest RX10 50 yX11_boxOf RX11 ∈ gN := List.mem_of_getElem? (i := 5) rfl
theorem n_6 : Cond.methodLinkNest RX10 57 yX11_ownNumber RX11 ∈ gN := List.mem_of_getElem? (i := 6) rfl
theorem n_7 : Cond.methodLinkNest RX9 44 yX1_init RX11 ∈ gN := List.mem_of_getElem? (i := 7) rfl
theorem n_8 : Cond.castable "java/lang/IndexOutOfBoundsException" "java/lang/IndexOutOfBoundsException" ∈ gN := List.mem_of_getElem? (i := 8) rfl
theorem n_9 : Cond.castable "java/lang/IllegalArgumentException" "java/lang/IllegalArgumentException" ∈ gN := List.mem_of_getElem? (i := 9) rfl
theorem gN_ot : ∀ w ∈ gN, w.onTables = true := by decide +kernel
def gEnv (U : State) : Prop := (∀ w ∈ gN, va_Nw w U) ∧ va_AO RX5 U ∧ va_AO RX3 U ∧ va_AO RX1 U ∧ va_AOA .int U ∧ (∃ a, vk_R RX11 225 "no such box" a U) ∧ (∃ a, vk_R RX11 230 "no such port" a U) ∧ (∃ a, vk_R RX11 235 "no such cable" a U) ∧ (∃ a, vk_R RX11 240 "no such packet" a U) ∧ (∃ a, vk_R RX11 244 "out of range, or of a kind that is not meant" a U)
theorem va_AOA.moved {ty : FieldType} {u U : State} (hvm : u.vm.Alike U.vm) (h : va_AOA ty u) : va_AOA ty U := arrayOver_alikeB hvm h
theorem gEnv.same {u U : State} (h : U.vm = u.vm) (hE : gEnv u) : gEnv U := by
  obtain ⟨h0, h1, h2, h3, h4, ⟨a5, h5⟩, ⟨a6, h6⟩, ⟨a7, h7⟩, ⟨a8, h8⟩, ⟨a9, h9⟩⟩ := hE
  have hv : u.vm.Alike U.vm := h ▸ Vm.Alike.refl _
  exact ⟨fun w hw => va_Nw.same (gN_ot w hw) h.symm (h0 w hw), h1.moved hv, h2.moved hv, h3.moved hv, h4.moved hv, ⟨a5, h5.same h⟩, ⟨a6, h6.same h⟩, ⟨a7, h7.same h⟩, ⟨a8, h8.same h⟩, ⟨a9, h9.same h⟩⟩
theorem gEnv.warm {s U : State} (hW : s.WarmedH U.vm) (hE : gEnv s) : gEnv U := by
  obtain ⟨h0, h1, h2, h3, h4, ⟨a5, h5⟩, ⟨a6, h6⟩, ⟨a7, h7⟩, ⟨a8, h8⟩, ⟨a9, h9⟩⟩ := hE
  have hv := hW.alike
  refine ⟨?_, h1.moved hv, h2.moved hv, h3.moved hv, h4.moved hv, ⟨a5, h5.warm hW⟩, ⟨a6, h6.warm hW⟩, ⟨a7, h7.warm hW⟩, ⟨a8, h8.warm hW⟩, ⟨a9, h9.warm hW⟩⟩
  intro w hw
  have hz := h0 w hw
  simp only [gN, List.mem_cons, List.not_mem_nil, or_false] at hw
  rcases hw with rfl | rfl | rfl | rfl | rfl | rfl | rfl | rfl | rfl | rfl | rfl | rfl | rfl
  · exact va_Nw.warmF hW hz
  · exact va_Nw.warmF hW hz
  · exact va_Nw.warmF hW hz
  · exact va_Nw.warmF hW hz
  · exact va_Nw.warmF hW hz
  · exact va_Nw.warmM hW hz
  · exact va_Nw.warmM hW hz
  · exact va_Nw.warmM hW hz
  · exact va_Nw.warmC hW hz
  · exact va_Nw.warmC hW hz
  · exact va_Nw.warmD hW hz
  · exact va_Nw.warmD hW hz
  · exact va_Nw.warmD hW hz
/-- Throwable's two statics, apart from what a method may change -/
def gZ (A : Nat → Prop) (U : State) : Prop := vx_Zq Bundle.tN "UNASSIGNED_STACK" Bundle.steD A U U.heap ∧ vx_Zq Bundle.tN "SUPPRESSED_SENTINEL" Bundle.listD A U U.heap
theorem gZ.blind {A : Nat → Prop} {a : Array Value} {U : State} {g : JFrame} {mk : MethodId} (h : gZ A U) : gZ A (U.calling g mk a) := ⟨vx_Zq.moved (u := U) (U := U.calling g mk a) (Vm.Alike.refl U.vm) h.1, vx_Zq.moved (u := U) (U := U.calling g mk a) (Vm.Alike.refl U.vm) h.2⟩
theorem gZ.call {A0 A1 : Nat → Prop} {s U : State} {H : Heap} {locs : List Loc} (hZ : gZ A0 s) (hS : va_S A0 s.heap H locs) (hU : U.heap = H) (hW : s.WarmedH U.vm) (hA : ∀ q, A1 q → A0 q) : gZ A1 U := by
  unfold gZ
  rw [hU]
  exact ⟨((vx_Zq.moved hW.alike hZ.1).kept (fun a h1 h2 => hS.2.1 a h1 h2)).narrow hA, ((vx_Zq.moved hW.alike hZ.2).kept (fun a h1 h2 => hS.2.1 a h1 h2)).narrow hA⟩
/-- a method's start: the arguments, the heap's size, the world, the tables' classes, the facts -/
def gP (dC : Nat → ClassId) (dI : Nat → Nat → Nat) (sz : Nat) (ws : va_W) (tys : List (ClassId × FieldType)) (av : List Value) : Array Value → State → Prop := va_Pc av (fun U => U.heap.size = sz ∧ va_P (dC, dI) vwCl ws U.heap ∧ va_K (dC, dI) vwCl tys U ∧ va_D (fun _ => True) ws ∧ gEnv U)
theorem gP_blind {dC : Nat → ClassId} {dI : Nat → Nat → Nat} {sz : Nat} {ws : va_W} {tys : List (ClassId × FieldType)} {av : List Value} : FrameBlind (gP dC dI sz ws tys av) := fun a U g mk q => by
  obtain ⟨q0, q1, qP, qK, qD, qE⟩ := q
  exact ⟨q0, q1, qP, va_K.moved (u := U) (U := U.calling g mk a) (Vm.Alike.refl U.vm) qK, qD, gEnv.same (u := U) rfl qE⟩
theorem gP_call {dC : Nat → ClassId} {dI : Nat → Nat → Nat} {ws : va_W} {tys : List (ClassId × FieldType)} {av : List Value} {A : Nat → Prop} {s : State} {H : Heap} (hP : va_P (dC, dI) vwCl ws H) (hK : va_K (dC, dI) vwCl tys s) (hD : va_D A ws) (hE : gEnv s) : ∀ U : State, U.heap = H → s.WarmedH U.vm → gP dC dI H.size ws tys av av.toArray U := fun U hU hW => ⟨rfl, by rw [hU], by rw [hU]; exact hP, va_K.moved hW.alike hK, hD.weaken (fun _ _ _ _ => trivial), hE.warm hW⟩
/-- .. and the statics, of a method that may throw -/
def gPZ (dC : Nat → ClassId) (dI : Nat → Nat → Nat) (sz : Nat) (ws : va_W) (tys : List (ClassId × FieldType)) (A : Nat → Prop) (av : List Value) : Array Value → State → Prop := va_Pc av (fun U => U.heap.size = sz ∧ va_P (dC, dI) vwCl ws U.heap ∧ va_K (dC, dI) vwCl tys U ∧ va_D (fun _ => True) ws ∧ gEnv U ∧ gZ A U)
theorem gPZ_blind {dC : Nat → ClassId} {dI : Nat → Nat → Nat} {sz : Nat} {ws : va_W} {tys : List (ClassId × FieldType)} {A : Nat → Prop} {av : List Value} : FrameBlind (gPZ dC dI sz ws tys A av) := fun a U g mk q => by
  obtain ⟨q0, q1, qP, qK, qD, qE, qZ⟩ := q
  exact ⟨q0, q1, qP, va_K.moved (u := U) (U := U.calling g mk a) (Vm.Alike.refl U.vm) qK, qD, gEnv.same (u := U) rfl qE, qZ.blind⟩
theorem gPZ_call {dC : Nat → ClassId} {dI : Nat → Nat → Nat} {ws : va_W} {tys : List (ClassId × FieldType)} {av : List Value} {A A0 A1 : Nat → Prop} {s : State} {H : Heap} {locs : List Loc} (hP : va_P (dC, dI) vwCl ws H) (hK : va_K (dC, dI) vwCl tys s) (hD : va_D A ws) (hE : gEnv s) (hZ : gZ A0 s) (hS : va_S A0 s.heap H locs) (hA : ∀ q, A1 q → A0 q) : ∀ U : State, U.heap = H → s.WarmedH U.vm → gPZ dC dI H.size ws tys A1 av av.toArray U := fun U hU hW => ⟨rfl, by rw [hU], by rw [hU]; exact hP, va_K.moved hW.alike hK, hD.weaken (fun _ _ _ _ => trivial), hE.warm hW, hZ.call hS hU hW hA⟩
/-- a callee that changes no old cell -/
theorem roF {A0 : Nat → Prop} {H0 H : Heap} {locs : List Loc} (hS : va_S A0 H0 H locs) (hA : ∀ q, H0.size ≤ q → A0 q) : ∀ q, va_A [] H.size q → A0 q := by
  rintro q (⟨k, e, h⟩ | h)
  · simp at h
  · exact hA q (Nat.le_trans hS.1 h)
theorem roP {D : va_G} {cl : List vw_C} {ws : va_W} {H H1 : Heap} (hP : va_P D cl ws H) (hk : ∀ q : Nat, q < H.size → ¬ va_A [] H.size q → H1[q]? = H[q]?) : va_P D cl ws H1 := hP.kept (fun k q hq => hk q.1 ((hP k q hq).lt) (by
  rintro (⟨k2, e, h⟩ | h)
  · simp at h
  · exact absurd ((hP k q hq).lt) (Nat.not_lt.mpr h)))
/-- a loop's counter against its bound -/
theorem lpE {x : Int32} {i N : Nat} (ex : x = nI i) (hN : N < 2 ^ 31) (hi : i ≤ N) (h : nI N ≤ x) : i = N := by
  rcases Nat.lt_or_ge i N with q | q
  · exact absurd (ex ▸ h) (nI_ge q hN)
  · omega
theorem lpL {x : Int32} {i N : Nat} (ex : x = nI i) (hi : i ≤ N) (hN : N < 2 ^ 31) (h : ¬ nI N ≤ x) : i < N := by
  rcases Nat.lt_or_ge i N with q | q
  · exact q
  · exact absurd (by rw [ex]; exact nI_le q (by omega)) h
theorem gIn {C : String} {T : u_T} {N : Nat} (ps : List Nat) (h : u_ws C T N = ps.filterMap (fun i => tables_1[i]?)) (g : (u_ws C T N).all goodWord = true) : ∀ w ∈ u_ws C T N, w ∈ gU := fun w hw => by
  have h1 := List.all_eq_true.mp g w hw
  rw [h] at hw
  obtain ⟨i, -, hi⟩ := List.mem_filterMap.mp hw
  exact gm hi h1
theorem i_nlt {a b : Int32} (h : ¬ a < b) : b ≤ a := by
  rw [Int32.lt_iff_toInt_lt] at h
  rw [Int32.le_iff_toInt_le]
  omega
theorem i_nle {a b : Int32} (h : ¬ a ≤ b) : b < a := by
  rw [Int32.le_iff_toInt_le] at h
  rw [Int32.lt_iff_toInt_lt]
  omega
theorem i_lt_nle {a b : Int32} (h : a < b) : ¬ b ≤ a := by
  rw [Int32.lt_iff_toInt_lt] at h
  rw [Int32.le_iff_toInt_le]
  omega
theorem own_ge {p : Int32} (h : 0 ≤ p) : 0 ≤ p - p / 4 * 4 := by
  obtain ⟨j, hj, rfl⟩ := nI_of (x := p) (fun q => i_lt_nle q h)
  have e : nI j - nI j / nI 4 * nI 4 = nI (j % 4) := pk_rem hj (by decide) (by decide)
  have e2 : nI j - nI j / 4 * 4 = nI (j % 4) := e
  rw [e2]
  exact nI_pos' (by omega)
theorem thrI0 : ∀ w ∈ (vx_atS RX11 215 "java/lang/IndexOutOfBoundsException" ["java/lang/RuntimeException", "java/lang/Exception"]).filter goodWord, w ∈ gU := fun w hw => List.mem_filter.mpr ⟨(show ∀ w ∈ (vx_atS RX11 215 "java/lang/IndexOutOfBoundsException" ["java/lang/RuntimeException", "java/lang/Exception"]).filter goodWord, w ∈ lw_tbl by decide +kernel) w hw, (List.mem_filter.mp hw).2⟩
theorem thrI1 : ∀ w ∈ (vx_atS RX11 215 "java/lang/IndexOutOfBoundsException" ["java/lang/RuntimeException", "java/lang/Exception"]).filter (fun w => !goodWord w), w ∈ gN := by decide +kernel
theorem thrI2 : ∀ w ∈ Cond.classLink RX11 211 "java/lang/IndexOutOfBoundsException" :: Cond.initialized "java/lang/IndexOutOfBoundsException" :: vx_atS RX11 215 "java/lang/IndexOutOfBoundsException" ["java/lang/RuntimeException", "java/lang/Exception"], vx_ot w = true := by decide +kernel
theorem thrA0 : ∀ w ∈ (vx_atS RX11 246 "java/lang/IllegalArgumentException" ["java/lang/RuntimeException", "java/lang/Exception"]).filter goodWord, w ∈ gU := fun w hw => List.mem_filter.mpr ⟨(show ∀ w ∈ (vx_atS RX11 246 "java/lang/IllegalArgumentException" ["java/lang/RuntimeException", "java/lang/Exception"]).filter goodWord, w ∈ lw_tbl by decide +kernel) w hw, (List.mem_filter.mp hw).2⟩
theorem thrA1 : ∀ w ∈ (vx_atS RX11 246 "java/lang/IllegalArgumentException" ["java/lang/RuntimeException", "java/lang/Exception"]).filter (fun w => !goodWord w), w ∈ gN := by decide +kernel
theorem thrA2 : ∀ w ∈ Cond.classLink RX11 242 "java/lang/IllegalArgumentException" :: Cond.initialized "java/lang/IllegalArgumentException" :: vx_atS RX11 246 "java/lang/IllegalArgumentException" ["java/lang/RuntimeException", "java/lang/Exception"], vx_ot w = true := by decide +kernel
def gIs (n lo hi : Int32) : Int32 := if lo ≤ n ∧ n ≤ hi then 1 else 0
theorem gIs_no (n : Int32) : gIs n 0 (-1) = 0 := if_neg (fun q => by
  have h1 := q.1
  have h2 := q.2
  rw [Int32.le_iff_toInt_le] at h1 h2
  rw [show (0 : Int32).toInt = 0 from by decide] at h1
  rw [show (-1 : Int32).toInt = -1 from by decide] at h2
  omega)
def gCan (n : Int32) : Int32 := if n = 0 then 1 else 0
theorem gcy {args : Array Value} {s : State} (h : (Cond.arrayClass .int).before args s = true) : ∃ cy, s.vm.findClass (FieldType.array .int).toString = some cy := by
  obtain ⟨c, k, comp, h1, -, -⟩ := Cond.arrayClass_spec h
  exact ⟨c, h1⟩
theorem mna_z (K : Nat) : ∀ c : ClassId, Jvm.Free.Multi.innerC c K (defaultValue .int) = vp_cell c (K, .inl (fun _ => 0)) := fun c => by
  show ({ cls := c, slots := Array.replicate K (.int 0), vm := .none } : Cell) = _
  rw [arrV_new]
  rfl
theorem rows_eq {r : Nat → Nat} {f : Nat → va_E} {e : va_E} (N : Nat) : va_pl ([] ++ (List.range N).map r) (vr_up f ((List.range N).map r) e) = (List.range N).map (fun i => (r i, e)) := by
  unfold va_pl
  rw [List.nil_append, List.map_map]
  apply List.map_congr_left
  intro i hi
  show (r i, vr_up f ((List.range N).map r) e (r i)) = (r i, e)
  rw [vr_up_in (List.mem_map.mpr ⟨i, hi, rfl⟩)]
theorem gaald {p : Program} {l : Launch} {e : Env} {R : Room} {s : State} {m : MethodId} {args : Array Value} {below : List Frame} {meth : Method} {c : Code} {H : Heap} {locs : List Loc} {cells slots : Nat} {Q : State → Prop} {cc : ByteArray} {pc : Nat} {ls : Array Slot} {rest : List Value} {D : va_G} {cl : List vw_C} {a : Nat} {tys : List (ClassId × FieldType)} {ws : va_W} (hexec : p.tables.exec = Jvm.exec) (hb : c.code = cc) (hK : va_K D cl tys s) (hP : va_P D cl ws H) (q0 t0 : Nat) {cA : ClassId} {n : Nat} {f : Nat → Option Nat} (ha : ws[q0]? = some (a, .inl (cA, n, .inr (.inr (.inr (.inr f)))))) (ht : tys[t0]? = some (cA, .array .int)) {i : Int32} (hin : vp_in i n) (hdg : decode cc pc = .ok (.aaload, 1))
    (kk : W p l e R s m args below meth c H locs cells slots Q (F0 m (pc + 1) ls (va_rf (f i.toNatClampNeg) :: rest))) : W p l e R s m args below meth c H locs cells slots Q (F0 m pc ls (.int i :: .ref a :: rest)) := by
  have hlt : i.toNatClampNeg < n := Nat.not_le.mp fun q => hin (Or.inr q)
  exact W.aald (v := va_rf (f i.toNatClampNeg)) (ty := .array .int) hexec hb (hP q0 _ ha) ((hK.2 t0 _ ht).1 n (fun j => va_rf (f j))) rfl (fun q => by cases q) (by show ¬ (i < 0 ∨ (arrV _ _ _).slots.size ≤ _); rw [arrV_size]; exact hin) (by show (arrV _ _ _).slots[_]? = _; rw [arrV_read _ _ hlt]) rfl rfl hdg kk
theorem gIs_t {n lo hi : Int32} (h : ¬ gIs n lo hi = 0) : lo ≤ n ∧ n ≤ hi := by
  unfold gIs at h
  by_cases q : lo ≤ n ∧ n ≤ hi
  · exact q
  · rw [if_neg q] at h
    exact absurd rfl h
theorem gIs_f {n lo hi : Int32} (h : gIs n lo hi = 0) : ¬ (lo ≤ n ∧ n ≤ hi) := by
  intro q
  unfold gIs at h
  rw [if_pos q] at h
  exact absurd h (by decide)
theorem rng30 {n : Int32} (h : 1 ≤ n ∧ n ≤ 30) : ∃ N : Nat, N ≤ 30 ∧ n = nI N := by
  have h0 : ¬ n < 0 := fun q => by
    have h1 := h.1
    rw [Int32.le_iff_toInt_le, show (1 : Int32).toInt = 1 from by decide] at h1
    rw [Int32.lt_iff_toInt_lt, show (0 : Int32).toInt = 0 from by decide] at q
    omega
  obtain ⟨j, hj, e⟩ := nI_of2 (M := 30) (n := 30) (by decide) h0 h.2
  exact ⟨j, hj, e⟩
