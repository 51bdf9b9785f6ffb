theorem dX4_init_0 : decode cX4_init 0 = .ok (.aload_n 0, 1) := by decide +kernel
theorem dX4_init_1 : decode cX4_init 1 = .ok (.invokespecial 3, 3) := by decide +kernel
theorem dX4_init_4 : decode cX4_init 4 = .ok (.return_, 1) := by decide +kernel
set_option maxHeartbeats 4000000 in
set_option maxRecDepth 100000 in
theorem i_X4 (l : Launch) (dC : Nat → ClassId) (dI : Nat → Nat → Nat) (q0 : Nat) : Met l yX4_init wsX4_init ({ frames := 1, cells := 0, slots := 0, locals := 12 }) (va_Pc [.ref q0] (fun _ => True)) (va_Sv (fun _ => True)) 0 0 (fun _ => False) := by
  refine Met.ofW (cc := cX4_init) (maxL := 1) (ret := none) (by decide) rfl ?_
  intro p e s m args below meth c s₁ B hml hv
  obtain ⟨rfl, -⟩ := hv
  have hx := B.exec
  have hb := B.bytes
  have hr := B.returns
  have hts := atoms_spec (ws := wsX4_init) B.pre
  have hown : s.vm.findClass RX4 = some m.cls := findClass_of_methodNamed B.named
  have hlocks := B.notSynchronized
  have hin : meth.name = "<init>" := (name_of_methodNamed B.named B.method).1
  have hl := lv_entry ([.ref q0]) (n := 1) (Nat.le_of_ble_eq_true rfl)
  rw [lg_entry_eq]
  generalize (lg_sl ([.ref q0]) ++ List.replicate (1 - (lg_sl ([.ref q0])).length) Slot.unset).toArray = ls at hl ⊢
  have hl : lv_has ls 1 [(0, .ref q0)] := hl
  refine lv_aload_n hx hb dX4_init_0 rfl (lv_at hl 0 rfl) ?_
  refine W.objInit hx hb hown (hts (.methodLink RX4 3 objectInit) (by decide +kernel)) (hts (.instanceMethod objectInit) (by decide +kernel)) (hts (.code objectInit ⟨#[0xb1]⟩ 1 none) (by decide +kernel)) rfl (by rw [hml]; exact hl.1) rfl dX4_init_1 (Nat.le_of_ble_eq_true rfl) (Nat.le_of_ble_eq_true rfl) ?_
  refine W.eq (g2 := F0 m 4 ls []) rfl ?_
  exact W.vret hx hb hr (fun t ht hW => ⟨rfl, trivial, ht⟩) (fun _ h => absurd h List.not_mem_nil) dX4_init_4
set_option maxRecDepth 20000 in
theorem ggX1_init_X4_init : GoodIn wsX1_init wsX4_init := goodIn_r _ [3, 4, 5, 6] (by decide +kernel) (by decide +kernel)
set_option maxRecDepth 20000 in
theorem gX1_init_X4_init_n1 : GoodIn wsX1_init (wsX4_init) := ggX1_init_X4_init
theorem dX1_init_0 : decode cX1_init 0 = .ok (.aload_n 0, 1) := by decide +kernel
theorem dX1_init_1 : decode cX1_init 1 = .ok (.invokespecial 1, 3) := by decide +kernel
theorem dX1_init_4 : decode cX1_init 4 = .ok (.return_, 1) := by decide +kernel
set_option maxHeartbeats 4000000 in
set_option maxRecDepth 100000 in
theorem i_X1 (l : Launch) (dC : Nat → ClassId) (dI : Nat → Nat → Nat) (q0 : Nat) : Met l yX1_init wsX1_init ({ frames := 2, cells := 0, slots := 0, locals := 32 }) (va_Pc [.ref q0] (fun U => tz_N U)) (va_Sv (fun _ => True)) 0 0 (fun _ => False) := by
  refine Met.ofW (cc := cX1_init) (maxL := 1) (ret := none) (by decide) rfl ?_
  intro p e s m args below meth c s₁ B hml hv
  obtain ⟨rfl, hN⟩ := hv
  have hx := B.exec
  have hb := B.bytes
  have hr := B.returns
  have hts := atoms_spec (ws := wsX1_init) B.pre
  have hown : s.vm.findClass RX1 = some m.cls := findClass_of_methodNamed B.named
  have hlocks := B.notSynchronized
  have hin : meth.name = "<init>" := (name_of_methodNamed B.named B.method).1
  have hl := lv_entry ([.ref q0]) (n := 1) (Nat.le_of_ble_eq_true rfl)
  rw [lg_entry_eq]
  generalize (lg_sl ([.ref q0]) ++ List.replicate (1 - (lg_sl ([.ref q0])).length) Slot.unset).toArray = ls at hl ⊢
  have hl : lv_has ls 1 [(0, .ref q0)] := hl
  refine lv_aload_n hx hb dX1_init_0 rfl (lv_at hl 0 rfl) ?_
  refine va_csv (va_Run.run (va_runIN (As := []) (rest := []) ⟨hx, hb, hml, hown, hts⟩ (i_X4 l dC dI q0) ⟨va_cnB 0 hts gX1_init_X4_init_n1 rfl rfl rfl (tz_nest_X1_1 hN) (hts (.initialized RX4) (by decide +kernel)) (by decide +kernel) ⟨Nat.le_of_ble_eq_true rfl, Nat.le_of_ble_eq_true rfl⟩, rfl, hts (.instanceMethod yX4_init) (by decide +kernel)⟩ ⟨fun a U g mk q => ⟨q.1, trivial⟩, fun U hU hW => ⟨rfl, trivial⟩⟩ rfl rfl hl.1 rfl (lv_room (Nat.le_of_ble_eq_true rfl)) dX1_init_1 ⟨Nat.le_of_ble_eq_true rfl, Nat.le_of_ble_eq_true rfl⟩)) (fun hw_2 => ?_)
  exact W.vret hx hb hr (fun t ht hW => ⟨rfl, trivial, ht⟩) (fun _ h => absurd h List.not_mem_nil) dX1_init_4
set_option maxRecDepth 20000 in
theorem ggX10_init_X4_init : GoodIn wsX10_init wsX4_init := goodIn_r _ [3, 4, 5, 6] (by decide +kernel) (by decide +kernel)
set_option maxRecDepth 20000 in
theorem gX10_init_X4_init_n1 : GoodIn wsX10_init (wsX4_init) := ggX10_init_X4_init
theorem dX10_init_0 : decode cX10_init 0 = .ok (.aload_n 0, 1) := by decide +kernel
theorem dX10_init_1 : decode cX10_init 1 = .ok (.invokespecial 1, 3) := by decide +kernel
theorem dX10_init_4 : decode cX10_init 4 = .ok (.return_, 1) := by decide +kernel
set_option maxHeartbeats 4000000 in
set_option maxRecDepth 100000 in
theorem i_X10 (l : Launch) (dC : Nat → ClassId) (dI : Nat → Nat → Nat) (q0 : Nat) : Met l yX10_init wsX10_init ({ frames := 2, cells := 0, slots := 0, locals := 32 }) (va_Pc [.ref q0] (fun U => tz_N U)) (va_Sv (fun _ => True)) 0 0 (fun _ => False) := by
  refine Met.ofW (cc := cX10_init) (maxL := 1) (ret := none) (by decide) rfl ?_
  intro p e s m args below meth c s₁ B hml hv
  obtain ⟨rfl, hN⟩ := hv
  have hx := B.exec
  have hb := B.bytes
  have hr := B.returns
  have hts := atoms_spec (ws := wsX10_init) B.pre
  have hown : s.vm.findClass RX10 = some m.cls := findClass_of_methodNamed B.named
  have hlocks := B.notSynchronized
  have hin : meth.name = "<init>" := (name_of_methodNamed B.named B.method).1
  have hl := lv_entry ([.ref q0]) (n := 1) (Nat.le_of_ble_eq_true rfl)
  rw [lg_entry_eq]
  generalize (lg_sl ([.ref q0]) ++ List.replicate (1 - (lg_sl ([.ref q0])).length) Slot.unset).toArray = ls at hl ⊢
  have hl : lv_has ls 1 [(0, .ref q0)] := hl
  refine lv_aload_n hx hb dX10_init_0 rfl (lv_at hl 0 rfl) ?_
  refine va_csv (va_Run.run (va_runIN (As := []) (rest := []) ⟨hx, hb, hml, hown, hts⟩ (i_X4 l dC dI q0) ⟨va_cnB 0 hts gX10_init_X4_init_n1 rfl rfl rfl (tz_nest_X10_1 hN) (hts (.initialized RX4) (by decide +kernel)) (by decide +kernel) ⟨Nat.le_of_ble_eq_true rfl, Nat.le_of_ble_eq_true rfl⟩, rfl, hts (.instanceMethod yX4_init) (by decide +kernel)⟩ ⟨fun a U g mk q => ⟨q.1, trivial⟩, fun U hU hW => ⟨rfl, trivial⟩⟩ rfl rfl hl.1 rfl (lv_room (Nat.le_of_ble_eq_true rfl)) dX10_init_1 ⟨Nat.le_of_ble_eq_true rfl, Nat.le_of_ble_eq_true rfl⟩)) (fun hw_2 => ?_)
  exact W.vret hx hb hr (fun t ht hW => ⟨rfl, trivial, ht⟩) (fun _ h => absurd h List.not_mem_nil) dX10_init_4
set_option maxRecDepth 20000 in
theorem ggX9_init_X4_init : GoodIn wsX9_init wsX4_init := goodIn_r _ [3, 4, 5, 6] (by decide +kernel) (by decide +kernel)
set_option maxRecDepth 20000 in
theorem gX9_init_X4_init_n1 : GoodIn wsX9_init (wsX4_init) := ggX9_init_X4_init
theorem dX9_init_0 : decode cX9_init 0 = .ok (.aload_n 0, 1) := by decide +kernel
theorem dX9_init_1 : decode cX9_init 1 = .ok (.invokespecial 1, 3) := by decide +kernel
theorem dX9_init_4 : decode cX9_init 4 = .ok (.return_, 1) := by decide +kernel
set_option maxHeartbeats 4000000 in
set_option maxRecDepth 100000 in
theorem i_X9 (l : Launch) (dC : Nat → ClassId) (dI : Nat → Nat → Nat) (q0 : Nat) : Met l yX9_init wsX9_init ({ frames := 2, cells := 0, slots := 0, locals := 32 }) (va_Pc [.ref q0] (fun U => tz_N U)) (va_Sv (fun _ => True)) 0 0 (fun _ => False) := by
  refine Met.ofW (cc := cX9_init) (maxL := 1) (ret := none) (by decide) rfl ?_
  intro p e s m args below meth c s₁ B hml hv
  obtain ⟨rfl, hN⟩ := hv
  have hx := B.exec
  have hb := B.bytes
  have hr := B.returns
  have hts := atoms_spec (ws := wsX9_init) B.pre
  have hown : s.vm.findClass RX9 = some m.cls := findClass_of_methodNamed B.named
  have hlocks := B.notSynchronized
  have hin : meth.name = "<init>" := (name_of_methodNamed B.named B.method).1
  have hl := lv_entry ([.ref q0]) (n := 1) (Nat.le_of_ble_eq_true rfl)
  rw [lg_entry_eq]
  generalize (lg_sl ([.ref q0]) ++ List.replicate (1 - (lg_sl ([.ref q0])).length) Slot.unset).toArray = ls at hl ⊢
  have hl : lv_has ls 1 [(0, .ref q0)] := hl
  refine lv_aload_n hx hb dX9_init_0 rfl (lv_at hl 0 rfl) ?_
  refine va_csv (va_Run.run (va_runIN (As := []) (rest := []) ⟨hx, hb, hml, hown, hts⟩ (i_X4 l dC dI q0) ⟨va_cnB 0 hts gX9_init_X4_init_n1 rfl rfl rfl (tz_nest_X9_1 hN) (hts (.initialized RX4) (by decide +kernel)) (by decide +kernel) ⟨Nat.le_of_ble_eq_true rfl, Nat.le_of_ble_eq_true rfl⟩, rfl, hts (.instanceMethod yX4_init) (by decide +kernel)⟩ ⟨fun a U g mk q => ⟨q.1, trivial⟩, fun U hU hW => ⟨rfl, trivial⟩⟩ rfl rfl hl.1 rfl (lv_room (Nat.le_of_ble_eq_true rfl)) dX9_init_1 ⟨Nat.le_of_ble_eq_true rfl, Nat.le_of_ble_eq_true rfl⟩)) (fun hw_2 => ?_)
  exact W.vret hx hb hr (fun t ht hW => ⟨rfl, trivial, ht⟩) (fun _ h => absurd h List.not_mem_nil) dX9_init_4
set_option maxRecDepth 20000 in
theorem ggX3_init_X10_init : GoodIn wsX3_init wsX10_init := goodIn_r _ [3, 4, 5, 6, 7, 8, 9] (by decide +kernel) (by decide +kernel)
set_option maxRecDepth 20000 in
theorem gX3_init_X10_init_n1 : GoodIn wsX3_init (wsX10_init) := ggX3_init_X10_init
theorem dX3_init_0 : decode cX3_init 0 = .ok (.aload_n 0, 1) := by decide +kernel
theorem dX3_init_1 : decode cX3_init 1 = .ok (.invokespecial 1, 3) := by decide +kernel
theorem dX3_init_4 : decode cX3_init 4 = .ok (.return_, 1) := by decide +kernel
set_option maxHeartbeats 4000000 in
set_option maxRecDepth 100000 in
theorem i_X3 (l : Launch) (dC : Nat → ClassId) (dI : Nat → Nat → Nat) (q0 : Nat) : Met l yX3_init wsX3_init ({ frames := 3, cells := 0, slots := 0, locals := 52 }) (va_Pc [.ref q0] (fun U => tz_N U)) (va_Sv (fun _ => True)) 0 0 (fun _ => False) := by
  refine Met.ofW (cc := cX3_init) (maxL := 1) (ret := none) (by decide) rfl ?_
  intro p e s m args below meth c s₁ B hml hv
  obtain ⟨rfl, hN⟩ := hv
  have hx := B.exec
  have hb := B.bytes
  have hr := B.returns
  have hts := atoms_spec (ws := wsX3_init) B.pre
  have hown : s.vm.findClass RX3 = some m.cls := findClass_of_methodNamed B.named
  have hlocks := B.notSynchronized
  have hin : meth.name = "<init>" := (name_of_methodNamed B.named B.method).1
  have hl := lv_entry ([.ref q0]) (n := 1) (Nat.le_of_ble_eq_true rfl)
  rw [lg_entry_eq]
  generalize (lg_sl ([.ref q0]) ++ List.replicate (1 - (lg_sl ([.ref q0])).length) Slot.unset).toArray = ls at hl ⊢
  have hl : lv_has ls 1 [(0, .ref q0)] := hl
  refine lv_aload_n hx hb dX3_init_0 rfl (lv_at hl 0 rfl) ?_
  refine va_csv (va_Run.run (va_runIN (As := []) (rest := []) ⟨hx, hb, hml, hown, hts⟩ (i_X10 l dC dI q0) ⟨va_cnB 0 hts gX3_init_X10_init_n1 rfl rfl rfl (tz_nest_X3_1 hN) (hts (.initialized RX10) (by decide +kernel)) (by decide +kernel) ⟨Nat.le_of_ble_eq_true rfl, Nat.le_of_ble_eq_true rfl⟩, rfl, hts (.instanceMethod yX10_init) (by decide +kernel)⟩ ⟨fun a U g mk q => by obtain ⟨q0, qN⟩ := q; exact ⟨q0, tz_N.same (u := U) (U := U.calling g mk a) rfl qN⟩, fun U hU hW => ⟨rfl, tz_N.warm hW hN⟩⟩ rfl rfl hl.1 rfl (lv_room (Nat.le_of_ble_eq_true rfl)) dX3_init_1 ⟨Nat.le_of_ble_eq_true rfl, Nat.le_of_ble_eq_true rfl⟩)) (fun hw_2 => ?_)
  exact W.vret hx hb hr (fun t ht hW => ⟨rfl, trivial, ht⟩) (fun _ h => absurd h List.not_mem_nil) dX3_init_4
set_option maxRecDepth 20000 in
theorem ggX8_init_X9_init : GoodIn wsX8_init wsX9_init := goodIn_r _ [3, 4, 5, 6, 7, 8, 9] (by decide +kernel) (by decide +kernel)
set_option maxRecDepth 20000 in
theorem gX8_init_X9_init_n1 : GoodIn wsX8_init (wsX9_init) := ggX8_init_X9_init
theorem dX8_init_0 : decode cX8_init 0 = .ok (.aload_n 0, 1) := by decide +kernel
theorem dX8_init_1 : decode cX8_init 1 = .ok (.invokespecial 1, 3) := by decide +kernel
theorem dX8_init_4 : decode cX8_init 4 = .ok (.return_, 1) := by decide +kernel
set_option maxHeartbeats 4000000 in
set_option maxRecDepth 100000 in
theorem i_X8 (l : Launch) (dC : Nat → ClassId) (dI : Nat → Nat → Nat) (q0 : Nat) : Met l yX8_init wsX8_init ({ frames := 3, cells := 0, slots := 0, locals := 52 }) (va_Pc [.ref q0] (fun U => tz_N U)) (va_Sv (fun _ => True)) 0 0 (fun _ => False) := by
  refine Met.ofW (cc := cX8_init) (maxL := 1) (ret := none) (by decide) rfl ?_
  intro p e s m args below meth c s₁ B hml hv
  obtain ⟨rfl, hN⟩ := hv
  have hx := B.exec
  have hb := B.bytes
  have hr := B.returns
  have hts := atoms_spec (ws := wsX8_init) B.pre
  have hown : s.vm.findClass RX8 = some m.cls := findClass_of_methodNamed B.named
  have hlocks := B.notSynchronized
  have hin : meth.name = "<init>" := (name_of_methodNamed B.named B.method).1
  have hl := lv_entry ([.ref q0]) (n := 1) (Nat.le_of_ble_eq_true rfl)
  rw [lg_entry_eq]
  generalize (lg_sl ([.ref q0]) ++ List.replicate (1 - (lg_sl ([.ref q0])).length) Slot.unset).toArray = ls at hl ⊢
  have hl : lv_has ls 1 [(0, .ref q0)] := hl
  refine lv_aload_n hx hb dX8_init_0 rfl (lv_at hl 0 rfl) ?_
  refine va_csv (va_Run.run (va_runIN (As := []) (rest := []) ⟨hx, hb, hml, hown, hts⟩ (i_X9 l dC dI q0) ⟨va_cnB 0 hts gX8_init_X9_init_n1 rfl rfl rfl (tz_nest_X8_1 hN) (hts (.initialized RX9) (by decide +kernel)) (by decide +kernel) ⟨Nat.le_of_ble_eq_true rfl, Nat.le_of_ble_eq_true rfl⟩, rfl, hts (.instanceMethod yX9_init) (by decide +kernel)⟩ ⟨fun a U g mk q => by obtain ⟨q0, qN⟩ := q; exact ⟨q0, tz_N.same (u := U) (U := U.calling g mk a) rfl qN⟩, fun U hU hW => ⟨rfl, tz_N.warm hW hN⟩⟩ rfl rfl hl.1 rfl (lv_room (Nat.le_of_ble_eq_true rfl)) dX8_init_1 ⟨Nat.le_of_ble_eq_true rfl, Nat.le_of_ble_eq_true rfl⟩)) (fun hw_2 => ?_)
  exact W.vret hx hb hr (fun t ht hW => ⟨rfl, trivial, ht⟩) (fun _ h => absurd h List.not_mem_nil) dX8_init_4
theorem dX6_init_0 : decode cX6_init 0 = .ok (.aload_n 0, 1) := by decide +kernel
theorem dX6_init_1 : decode cX6_init 1 = .ok (.invokespecial 3, 3) := by decide +kernel
theorem dX6_init_4 : decode cX6_init 4 = .ok (.aload_n 0, 1) := by decide +kernel
theorem dX6_init_5 : decode cX6_init 5 = .ok (.iconst 0, 1) := by decide +kernel
theorem dX6_init_6 : decode cX6_init 6 = .ok (.putfield 9, 3) := by decide +kernel
theorem dX6_init_9 : decode cX6_init 9 = .ok (.aload_n 0, 1) := by decide +kernel
theorem dX6_init_10 : decode cX6_init 10 = .ok (.iconst 0, 1) := by decide +kernel
theorem dX6_init_11 : decode cX6_init 11 = .ok (.iload_n 1, 1) := by decide +kernel
theorem dX6_init_12 : decode cX6_init 12 = .ok (.invokestatic 15, 3) := by decide +kernel
theorem dX6_init_15 : decode cX6_init 15 = .ok (.putfield 21, 3) := by decide +kernel
theorem dX6_init_18 : decode cX6_init 18 = .ok (.aload_n 0, 1) := by decide +kernel
theorem dX6_init_19 : decode cX6_init 19 = .ok (.iconst 0, 1) := by decide +kernel
theorem dX6_init_20 : decode cX6_init 20 = .ok (.iload_n 2, 1) := by decide +kernel
theorem dX6_init_21 : decode cX6_init 21 = .ok (.invokestatic 15, 3) := by decide +kernel
theorem dX6_init_24 : decode cX6_init 24 = .ok (.putfield 24, 3) := by decide +kernel
theorem dX6_init_27 : decode cX6_init 27 = .ok (.aload_n 0, 1) := by decide +kernel
theorem dX6_init_28 : decode cX6_init 28 = .ok (.aload_n 0, 1) := by decide +kernel
theorem dX6_init_29 : decode cX6_init 29 = .ok (.getfield 21, 3) := by decide +kernel
theorem dX6_init_32 : decode cX6_init 32 = .ok (.aload_n 0, 1) := by decide +kernel
theorem dX6_init_33 : decode cX6_init 33 = .ok (.getfield 24, 3) := by decide +kernel
theorem dX6_init_36 : decode cX6_init 36 = .ok (.imul, 1) := by decide +kernel
theorem dX6_init_37 : decode cX6_init 37 = .ok (.newarray .int, 2) := by decide +kernel
theorem dX6_init_39 : decode cX6_init 39 = .ok (.putfield 27, 3) := by decide +kernel
theorem dX6_init_42 : decode cX6_init 42 = .ok (.return_, 1) := by decide +kernel
set_option maxRecDepth 20000 in
theorem iw_i_rows_5_X6 : ∀ w ∈ wsX60, w ∈ wsX6_init := by decide +kernel
set_option maxHeartbeats 4000000 in
set_option maxRecDepth 100000 in
theorem i_rows_5 (l : Launch) (dC : Nat → ClassId) (dI : Nat → Nat → Nat) (ro : Nat) (sz : Nat) : Met l yX6_init wsX6_init ({ frames := 1, cells := 1, slots := 5, locals := 14 }) (va_Pc [.ref ro, .int 5, .int 1] (fun U => U.heap.size = sz ∧ va_P (dC, dI) vwCl [(ro, .inr (6, [.int 0, .int 0, .null, .int 0]))] U.heap ∧ va_K (dC, dI) vwCl [] U ∧ va_D (fun _ => True) [(ro, .inr (6, [.int 0, .int 0, .null, .int 0]))])) (va_Qv (fun (_ : Unit) => True) (fun _ t => ∃ (ca : Nat) (cc0 : ClassId), va_P (dC, dI) vwCl [(ro, .inr (6, [.int 1, .int 5, .ref ca, .int 0])), (ca, .inl (cc0, 5, .inl (fun _ => 0)))] t.heap ∧ va_K (dC, dI) vwCl [(cc0, .int)] t ∧ va_D (va_A [(ro, .inr (6, [.int 0, .int 0, .null, .int 0]))] sz) [(ro, .inr (6, [.int 1, .int 5, .ref ca, .int 0])), (ca, .inl (cc0, 5, .inl (fun _ => 0)))]) (va_A [(ro, .inr (6, [.int 0, .int 0, .null, .int 0]))] sz)) 1 5 (va_A [(ro, .inr (6, [.int 0, .int 0, .null, .int 0]))] sz) := by
  refine Met.ofW (cc := cX6_init) (maxL := 3) (ret := none) (by decide) rfl ?_
  intro p e s m args below meth c s₁ B hml hv
  obtain ⟨rfl, hsz, hP, hK, hD0⟩ := hv
  have hx := B.exec
  have hb := B.bytes
  have hr := B.returns
  have hts := atoms_spec (ws := wsX6_init) B.pre
  have hown : s.vm.findClass RX6 = some m.cls := findClass_of_methodNamed B.named
  have hlocks := B.notSynchronized
  have hin : meth.name = "<init>" := (name_of_methodNamed B.named B.method).1
  subst hsz
  have hD := hD0.self (sz := s.heap.size)
  generalize hAe : va_A [(ro, .inr (6, [.int 0, .int 0, .null, .int 0]))] s.heap.size = A at hD ⊢
  have hA : ∀ q : Nat, s.heap.size ≤ q → A q := fun q h => by rw [← hAe]; exact Or.inr h
  have hS : va_S A s.heap s.heap [] := va_S.rf
  have hP : va_P (dC, dI) vwCl [(ro, .inr (6, [.int 0, .int 0, .null, .int 0]))] s.heap := hP
  have hl := lv_entry ([.ref ro, .int 5, .int 1]) (n := 3) (Nat.le_of_ble_eq_true rfl)
  rw [lg_entry_eq]
  generalize (lg_sl ([.ref ro, .int 5, .int 1]) ++ List.replicate (3 - (lg_sl ([.ref ro, .int 5, .int 1])).length) Slot.unset).toArray = ls at hl ⊢
  have hl : lv_has ls 3 [(0, .ref ro), (1, .int 5), (2, .int 1)] := hl
  refine lv_aload_n hx hb dX6_init_0 rfl (lv_at hl 0 rfl) ?_
  refine W.objInit hx hb hown (hts (.methodLink RX6 3 objectInit) (by decide +kernel)) (hts (.instanceMethod objectInit) (by decide +kernel)) (hts (.code objectInit ⟨#[0xb1]⟩ 1 none) (by decide +kernel)) rfl (by rw [hml]; exact hl.1) rfl dX6_init_1 (Nat.le_of_ble_eq_true rfl) (Nat.le_of_ble_eq_true rfl) ?_
  refine W.eq (g2 := F0 m 4 ls []) rfl ?_
  refine lv_aload_n hx hb dX6_init_4 rfl (lv_at hl 0 rfl) ?_
  refine lv_iconst (v := 0) hx hb dX6_init_5 (by decide) ?_
  refine va_put (D := (dC, dI)) (ci := 6) (v := .int 0) (ty := .int) (C := RX6) (T := TX6) (N := 4) hx hb hts iw_i_rows_5_X6 tyX6 tyX6_ok nmX6 hown hK hP hD hS 0 rfl rfl 3 (by decide) (hts (.fieldLink RX6 9 "ThriceCounted$Rows" "size" "I") (by decide +kernel)) (fun _ h9 => h9) rfl (by decide +kernel) rfl rfl (Nat.le_of_ble_eq_true rfl) dX6_init_6 (fun H locs hP hD hS => ?_)
  have hP : va_P (dC, dI) vwCl [(ro, .inr (6, [.int 0, .int 0, .null, .int 0]))] H := hP
  have hD : va_D A [(ro, .inr (6, [.int 0, .int 0, .null, .int 0]))] := hD
  refine lv_aload_n hx hb dX6_init_9 rfl (lv_at hl 0 rfl) ?_
  refine lv_iconst (v := 0) hx hb dX6_init_10 (by decide) ?_
  refine lv_iload_n hx hb dX6_init_11 rfl (lv_at hl 1 rfl) ?_
  refine va_mmax hx hb (hml.trans hl.1.symm) hown (hts (.methodLink RX6 15 Lib.Math.max.name) (by decide +kernel)) (hts (.static Lib.Math.max.name) (by decide +kernel)) (hts (.initialized "java/lang/Math") (by decide +kernel)) (hts (.code Lib.Math.max.name Lib.Math.max.code 2 (some .int)) (by decide +kernel)) (Nat.le_of_ble_eq_true rfl) (Nat.le_of_ble_eq_true rfl) (Nat.le_of_ble_eq_true rfl) (Nat.le_of_ble_eq_true rfl) dX6_init_12 ?_
  refine tz_i 5 (by decide) ?_
  refine va_putF (D := (dC, dI)) (ci := 6) (v := .int 5) (ty := .int) (C := RX6) (T := TX6) (N := 4) hx hb hts iw_i_rows_5_X6 tyX6 tyX6_ok nmX6 hown hK hP hD hS 0 rfl rfl 1 (by decide) (hts (.fieldLink RX6 21 "ThriceCounted$Rows" "limit" "I") (by decide +kernel)) (fun _ h9 => h9) rfl hin rfl (by decide +kernel) rfl rfl (Nat.le_of_ble_eq_true rfl) dX6_init_15 (fun H locs hP hD hS => ?_)
  have hP : va_P (dC, dI) vwCl [(ro, .inr (6, [.int 0, .int 5, .null, .int 0]))] H := hP
  have hD : va_D A [(ro, .inr (6, [.int 0, .int 5, .null, .int 0]))] := hD
  refine lv_aload_n hx hb dX6_init_18 rfl (lv_at hl 0 rfl) ?_
  refine lv_iconst (v := 0) hx hb dX6_init_19 (by decide) ?_
  refine lv_iload_n hx hb dX6_init_20 rfl (lv_at hl 2 rfl) ?_
  refine va_mmax hx hb (hml.trans hl.1.symm) hown (hts (.methodLink RX6 15 Lib.Math.max.name) (by decide +kernel)) (hts (.static Lib.Math.max.name) (by decide +kernel)) (hts (.initialized "java/lang/Math") (by decide +kernel)) (hts (.code Lib.Math.max.name Lib.Math.max.code 2 (some .int)) (by decide +kernel)) (Nat.le_of_ble_eq_true rfl) (Nat.le_of_ble_eq_true rfl) (Nat.le_of_ble_eq_true rfl) (Nat.le_of_ble_eq_true rfl) dX6_init_21 ?_
  refine tz_i 1 (by decide) ?_
  refine va_putF (D := (dC, dI)) (ci := 6) (v := .int 1) (ty := .int) (C := RX6) (T := TX6) (N := 4) hx hb hts iw_i_rows_5_X6 tyX6 tyX6_ok nmX6 hown hK hP hD hS 0 rfl rfl 0 (by decide) (hts (.fieldLink RX6 24 "ThriceCounted$Rows" "width" "I") (by decide +kernel)) (fun _ h9 => h9) rfl hin rfl (by decide +kernel) rfl rfl (Nat.le_of_ble_eq_true rfl) dX6_init_24 (fun H locs hP hD hS => ?_)
  have hP : va_P (dC, dI) vwCl [(ro, .inr (6, [.int 1, .int 5, .null, .int 0]))] H := hP
  have hD : va_D A [(ro, .inr (6, [.int 1, .int 5, .null, .int 0]))] := hD
  refine lv_aload_n hx hb dX6_init_27 rfl (lv_at hl 0 rfl) ?_
  refine lv_aload_n hx hb dX6_init_28 rfl (lv_at hl 0 rfl) ?_
  refine va_get (D := (dC, dI)) (ci := 6) (v := .int 5) (C := RX6) (T := TX6) (N := 4) hx hb hts iw_i_rows_5_X6 hown hK hP 0 rfl rfl 1 (by decide) (hts (.fieldLink RX6 21 "ThriceCounted$Rows" "limit" "I") (by decide +kernel)) (fun _ h9 => h9) rfl dX6_init_29 ?_
  refine lv_aload_n hx hb dX6_init_32 rfl (lv_at hl 0 rfl) ?_
  refine va_get (D := (dC, dI)) (ci := 6) (v := .int 1) (C := RX6) (T := TX6) (N := 4) hx hb hts iw_i_rows_5_X6 hown hK hP 0 rfl rfl 0 (by decide) (hts (.fieldLink RX6 24 "ThriceCounted$Rows" "width" "I") (by decide +kernel)) (fun _ h9 => h9) rfl dX6_init_33 ?_
  refine lv_imul hx hb dX6_init_36 ?_
  refine tz_i 5 (by decide) ?_
  refine va_newa (atype := .int) (ty := .int) (a0 := (5, .inl (fun _ => 0))) (N' := 5) hx hb (hts (.arrayClass .int) (by decide +kernel)) rfl hK hP hD hS hA (fun _ => rfl) (by decide) (by decide) (Nat.le_of_ble_eq_true rfl) (Nat.le_of_ble_eq_true rfl) (Nat.le_of_ble_eq_true rfl) dX6_init_37 (fun q_1 cA_2 H hK hP hD hS => ?_)
  have hK : va_K (dC, dI) vwCl [(cA_2, .int)] s := hK
  have hP : va_P (dC, dI) vwCl [(ro, .inr (6, [.int 1, .int 5, .null, .int 0])), (q_1, .inl (cA_2, 5, .inl (fun _ => 0)))] H := hP
  have hD : va_D A [(ro, .inr (6, [.int 1, .int 5, .null, .int 0])), (q_1, .inl (cA_2, 5, .inl (fun _ => 0)))] := hD
  refine W.widen (k := 1) (n := 5) (Nat.le_of_ble_eq_true rfl) (Nat.le_of_ble_eq_true rfl) ?_
  refine va_putF (D := (dC, dI)) (ci := 6) (v := .ref q_1) (ty := .array .int) (C := RX6) (T := TX6) (N := 4) hx hb hts iw_i_rows_5_X6 tyX6 tyX6_ok nmX6 hown hK hP hD hS 0 rfl rfl 2 (by decide) (hts (.fieldLink RX6 27 "ThriceCounted$Rows" "cells" "[I") (by decide +kernel)) (fun _ h9 => h9) rfl hin rfl (by decide +kernel) rfl rfl (Nat.le_of_ble_eq_true rfl) dX6_init_39 (fun H locs hP hD hS => ?_)
  have hP : va_P (dC, dI) vwCl [(ro, .inr (6, [.int 1, .int 5, .ref q_1, .int 0])), (q_1, .inl (cA_2, 5, .inl (fun _ => 0)))] H := hP
  have hD : va_D A [(ro, .inr (6, [.int 1, .int 5, .ref q_1, .int 0])), (q_1, .inl (cA_2, 5, .inl (fun _ => 0)))] := hD
  have hP9 := hP.sub (ws' := [(ro, .inr (6, [.int 1, .int 5, .ref q_1, .int 0])), (q_1, .inl (cA_2, 5, .inl (fun _ => 0)))]) [0, 1] rfl
  have hD9 := hD.sub (ws' := [(ro, .inr (6, [.int 1, .int 5, .ref q_1, .int 0])), (q_1, .inl (cA_2, 5, .inl (fun _ => 0)))]) [0, 1] (by decide) rfl
  have hK9 := hK.sub (tys' := [(cA_2, .int)]) [0] rfl
  refine W.widen (k := 1) (n := 5) (Nat.le_of_ble_eq_true rfl) (Nat.le_of_ble_eq_true rfl) ?_
  exact W.vret hx hb hr (fun t ht hW => ⟨⟨(), rfl, trivial, q_1, cA_2, by rw [ht]; exact hP9, va_K.moved hW.alike hK9, hD9⟩, hS.F ht⟩) hS.2.2 dX6_init_42
set_option maxRecDepth 20000 in
theorem iw_i_rows_20_X6 : ∀ w ∈ wsX60, w ∈ wsX6_init := by decide +kernel
set_option maxHeartbeats 4000000 in
set_option maxRecDepth 100000 in
theorem i_rows_20 (l : Launch) (dC : Nat → ClassId) (dI : Nat → Nat → Nat) (ro : Nat) (sz : Nat) : Met l yX6_init wsX6_init ({ frames := 1, cells := 1, slots := 20, locals := 14 }) (va_Pc [.ref ro, .int 5, .int 4] (fun U => U.heap.size = sz ∧ va_P (dC, dI) vwCl [(ro, .inr (6, [.int 0, .int 0, .null, .int 0]))] U.heap ∧ va_K (dC, dI) vwCl [] U ∧ va_D (fun _ => True) [(ro, .inr (6, [.int 0, .int 0, .null, .int 0]))])) (va_Qv (fun (_ : Unit) => True) (fun _ t => ∃ (ca : Nat) (cc0 : ClassId), va_P (dC, dI) vwCl [(ro, .inr (6, [.int 4, .int 5, .ref ca, .int 0])), (ca, .inl (cc0, 20, .inl (fun _ => 0)))] t.heap ∧ va_K (dC, dI) vwCl [(cc0, .int)] t ∧ va_D (va_A [(ro, .inr (6, [.int 0, .int 0, .null, .int 0]))] sz) [(ro, .inr (6, [.int 4, .int 5, .ref ca, .int 0])), (ca, .inl (cc0, 20, .inl (fun _ => 0)))]) (va_A [(ro, .inr (6, [.int 0, .int 0, .null, .int 0]))] sz)) 1 20 (va_A [(ro, .inr (6, [.int 0, .int 0, .null, .int 0]))] sz) := by
  refine Met.ofW (cc := cX6_init) (maxL := 3) (ret := none) (by decide) rfl ?_
  intro p e s m args below meth c s₁ B hml hv
  obtain ⟨rfl, hsz, hP, hK, hD0⟩ := hv
  have hx := B.exec
  have hb := B.bytes
  have hr := B.returns
  have hts := atoms_spec (ws := wsX6_init) B.pre
  have hown : s.vm.findClass RX6 = some m.cls := findClass_of_methodNamed B.named
  have hlocks := B.notSynchronized
  have hin : meth.name = "<init>" := (name_of_methodNamed B.named B.method).1
  subst hsz
  have hD := hD0.self (sz := s.heap.size)
  generalize hAe : va_A [(ro, .inr (6, [.int 0, .int 0, .null, .int 0]))] s.heap.size = A at hD ⊢
  have hA : ∀ q : Nat, s.heap.size ≤ q → A q := fun q h => by rw [← hAe]; exact Or.inr h
  have hS : va_S A s.heap s.heap [] := va_S.rf
  have hP : va_P (dC, dI) vwCl [(ro, .inr (6, [.int 0, .int 0, .null, .int 0]))] s.heap := hP
  have hl := lv_entry ([.ref ro, .int 5, .int 4]) (n := 3) (Nat.le_of_ble_eq_true rfl)
  rw [lg_entry_eq]
  generalize (lg_sl ([.ref ro, .int 5, .int 4]) ++ List.replicate (3 - (lg_sl ([.ref ro, .int 5, .int 4])).length) Slot.unset).toArray = ls at hl ⊢
  have hl : lv_has ls 3 [(0, .ref ro), (1, .int 5), (2, .int 4)] := hl
  refine lv_aload_n hx hb dX6_init_0 rfl (lv_at hl 0 rfl) ?_
  refine W.objInit hx hb hown (hts (.methodLink RX6 3 objectInit) (by decide +kernel)) (hts (.instanceMethod objectInit) (by decide +kernel)) (hts (.code objectInit ⟨#[0xb1]⟩ 1 none) (by decide +kernel)) rfl (by rw [hml]; exact hl.1) rfl dX6_init_1 (Nat.le_of_ble_eq_true rfl) (Nat.le_of_ble_eq_true rfl) ?_
  refine W.eq (g2 := F0 m 4 ls []) rfl ?_
  refine lv_aload_n hx hb dX6_init_4 rfl (lv_at hl 0 rfl) ?_
  refine lv_iconst (v := 0) hx hb dX6_init_5 (by decide) ?_
  refine va_put (D := (dC, dI)) (ci := 6) (v := .int 0) (ty := .int) (C := RX6) (T := TX6) (N := 4) hx hb hts iw_i_rows_20_X6 tyX6 tyX6_ok nmX6 hown hK hP hD hS 0 rfl rfl 3 (by decide) (hts (.fieldLink RX6 9 "ThriceCounted$Rows" "size" "I") (by decide +kernel)) (fun _ h9 => h9) rfl (by decide +kernel) rfl rfl (Nat.le_of_ble_eq_true rfl) dX6_init_6 (fun H locs hP hD hS => ?_)
  have hP : va_P (dC, dI) vwCl [(ro, .inr (6, [.int 0, .int 0, .null, .int 0]))] H := hP
  have hD : va_D A [(ro, .inr (6, [.int 0, .int 0, .null, .int 0]))] := hD
  refine lv_aload_n hx hb dX6_init_9 rfl (lv_at hl 0 rfl) ?_
  refine lv_iconst (v := 0) hx hb dX6_init_10 (by decide) ?_
  refine lv_iload_n hx hb dX6_init_11 rfl (lv_at hl 1 rfl) ?_
  refine va_mmax hx hb (hml.trans hl.1.symm) hown (hts (.methodLink RX6 15 Lib.Math.max.name) (by decide +kernel)) (hts (.static Lib.Math.max.name) (by decide +kernel)) (hts (.initialized "java/lang/Math") (by decide +kernel)) (hts (.code Lib.Math.max.name Lib.Math.max.code 2 (some .int)) (by decide +kernel)) (Nat.le_of_ble_eq_true rfl) (Nat.le_of_ble_eq_true rfl) (Nat.le_of_ble_eq_true rfl) (Nat.le_of_ble_eq_true rfl) dX6_init_12 ?_
  refine tz_i 5 (by decide) ?_
  refine va_putF (D := (dC, dI)) (ci := 6) (v := .int 5) (ty := .int) (C := RX6) (T := TX6) (N := 4) hx hb hts iw_i_rows_20_X6 tyX6 tyX6_ok nmX6 hown hK hP hD hS 0 rfl rfl 1 (by decide) (hts (.fieldLink RX6 21 "ThriceCounted$Rows" "limit" "I") (by decide +kernel)) (fun _ h9 => h9) rfl hin rfl (by decide +kernel) rfl rfl (Nat.le_of_ble_eq_true rfl) dX6_init_15 (fun H locs hP hD hS => ?_)
  have hP : va_P (dC, dI) vwCl [(ro, .inr (6, [.int 0, .int 5, .null, .int 0]))] H := hP
  have hD : va_D A [(ro, .inr (6, [.int 0, .int 5, .null, .int 0]))] := hD
  refine lv_aload_n hx hb dX6_init_18 rfl (lv_at hl 0 rfl) ?_
  refine lv_iconst (v := 0) hx hb dX6_init_19 (by decide) ?_
  refine lv_iload_n hx hb dX6_init_20 rfl (lv_at hl 2 rfl) ?_
  refine va_mmax hx hb (hml.trans hl.1.symm) hown (hts (.methodLink RX6 15 Lib.Math.max.name) (by decide +kernel)) (hts (.static Lib.Math.max.name) (by decide +kernel)) (hts (.initialized "java/lang/Math") (by decide +kernel)) (hts (.code Lib.Math.max.name Lib.Math.max.code 2 (some .int)) (by decide +kernel)) (Nat.le_of_ble_eq_true rfl) (Nat.le_of_ble_eq_true rfl) (Nat.le_of_ble_eq_true rfl) (Nat.le_of_ble_eq_true rfl) dX6_init_21 ?_
  refine tz_i 4 (by decide) ?_
  refine va_putF (D := (dC, dI)) (ci := 6) (v := .int 4) (ty := .int) (C := RX6) (T := TX6) (N := 4) hx hb hts iw_i_rows_20_X6 tyX6 tyX6_ok nmX6 hown hK hP hD hS 0 rfl rfl 0 (by decide) (hts (.fieldLink RX6 24 "ThriceCounted$Rows" "width" "I") (by decide +kernel)) (fun _ h9 => h9) rfl hin rfl (by decide +kernel) rfl rfl (Nat.le_of_ble_eq_true rfl) dX6_init_24 (fun H locs hP hD hS => ?_)
  have hP : va_P (dC, dI) vwCl [(ro, .inr (6, [.int 4, .int 5, .null, .int 0]))] H := hP
  have hD : va_D A [(ro, .inr (6, [.int 4, .int 5, .null, .int 0]))] := hD
  refine lv_aload_n hx hb dX6_init_27 rfl (lv_at hl 0 rfl) ?_
  refine lv_aload_n hx hb dX6_init_28 rfl (lv_at hl 0 rfl) ?_
  refine va_get (D := (dC, dI)) (ci := 6) (v := .int 5) (C := RX6) (T := TX6) (N := 4) hx hb hts iw_i_rows_20_X6 hown hK hP 0 rfl rfl 1 (by decide) (hts (.fieldLink RX6 21 "ThriceCounted$Rows" "limit" "I") (by decide +kernel)) (fun _ h9 => h9) rfl dX6_init_29 ?_
  refine lv_aload_n hx hb dX6_init_32 rfl (lv_at hl 0 rfl) ?_
  refine va_get (D := (dC, dI)) (ci := 6) (v := .int 4) (C := RX6) (T := TX6) (N := 4) hx hb hts iw_i_rows_20_X6 hown hK hP 0 rfl rfl 0 (by decide) (hts (.fieldLink RX6 24 "ThriceCounted$Rows" "width" "I") (by decide +kernel)) (fun _ h9 => h9) rfl dX6_init_33 ?_
  refine lv_imul hx hb dX6_init_36 ?_
  refine tz_i 20 (by decide) ?_
  refine va_newa (atype := .int) (ty := .int) (a0 := (20, .inl (fun _ => 0))) (N' := 20) hx hb (hts (.arrayClass .int) (by decide +kernel)) rfl hK hP hD hS hA (fun _ => rfl) (by decide) (by decide) (Nat.le_of_ble_eq_true rfl) (Nat.le_of_ble_eq_true rfl) (Nat.le_of_ble_eq_true rfl) dX6_init_37 (fun q_1 cA_2 H hK hP hD hS => ?_)
  have hK : va_K (dC, dI) vwCl [(cA_2, .int)] s := hK
  have hP : va_P (dC, dI) vwCl [(ro, .inr (6, [.int 4, .int 5, .null, .int 0])), (q_1, .inl (cA_2, 20, .inl (fun _ => 0)))] H := hP
  have hD : va_D A [(ro, .inr (6, [.int 4, .int 5, .null, .int 0])), (q_1, .inl (cA_2, 20, .inl (fun _ => 0)))] := hD
  refine W.widen (k := 1) (n := 20) (Nat.le_of_ble_eq_true rfl) (Nat.le_of_ble_eq_true rfl) ?_
  refine va_putF (D := (dC, dI)) (ci := 6) (v := .ref q_1) (ty := .array .int) (C := RX6) (T := TX6) (N := 4) hx hb hts iw_i_rows_20_X6 tyX6 tyX6_ok nmX6 hown hK hP hD hS 0 rfl rfl 2 (by decide) (hts (.fieldLink RX6 27 "ThriceCounted$Rows" "cells" "[I") (by decide +kernel)) (fun _ h9 => h9) rfl hin rfl (by decide +kernel) rfl rfl (Nat.le_of_ble_eq_true rfl) dX6_init_39 (fun H locs hP hD hS => ?_)
  have hP : va_P (dC, dI) vwCl [(ro, .inr (6, [.int 4, .int 5, .ref q_1, .int 0])), (q_1, .inl (cA_2, 20, .inl (fun _ => 0)))] H := hP
  have hD : va_D A [(ro, .inr (6, [.int 4, .int 5, .ref q_1, .int 0])), (q_1, .inl (cA_2, 20, .inl (fun _ => 0)))] := hD
  have hP9 := hP.sub (ws' := [(ro, .inr (6, [.int 4, .int 5, .ref q_1, .int 0])), (q_1, .inl (cA_2, 20, .inl (fun _ => 0)))]) [0, 1] rfl
  have hD9 := hD.sub (ws' := [(ro, .inr (6, [.int 4, .int 5, .ref q_1, .int 0])), (q_1, .inl (cA_2, 20, .inl (fun _ => 0)))]) [0, 1] (by decide) rfl
  have hK9 := hK.sub (tys' := [(cA_2, .int)]) [0] rfl
  refine W.widen (k := 1) (n := 20) (Nat.le_of_ble_eq_true rfl) (Nat.le_of_ble_eq_true rfl) ?_
  exact W.vret hx hb hr (fun t ht hW => ⟨⟨(), rfl, trivial, q_1, cA_2, by rw [ht]; exact hP9, va_K.moved hW.alike hK9, hD9⟩, hS.F ht⟩) hS.2.2 dX6_init_42
set_option maxRecDepth 20000 in
theorem iw_i_rows_32_X6 : ∀ w ∈ wsX60, w ∈ wsX6_init := by decide +kernel
set_option maxHeartbeats 4000000 in
set_option maxRecDepth 100000 in
theorem i_rows_32 (l : Launch) (dC : Nat → ClassId) (dI : Nat → Nat → Nat) (ro : Nat) (sz : Nat) : Met l yX6_init wsX6_init ({ frames := 1, cells := 1, slots := 32, locals := 14 }) (va_Pc [.ref ro, .int 8, .int 4] (fun U => U.heap.size = sz ∧ va_P (dC, dI) vwCl [(ro, .inr (6, [.int 0, .int 0, .null, .int 0]))] U.heap ∧ va_K (dC, dI) vwCl [] U ∧ va_D (fun _ => True) [(ro, .inr (6, [.int 0, .int 0, .null, .int 0]))])) (va_Qv (fun (_ : Unit) => True) (fun _ t => ∃ (ca : Nat) (cc0 : ClassId), va_P (dC, dI) vwCl [(ro, .inr (6, [.int 4, .int 8, .ref ca, .int 0])), (ca, .inl (cc0, 32, .inl (fun _ => 0)))] t.heap ∧ va_K (dC, dI) vwCl [(cc0, .int)] t ∧ va_D (va_A [(ro, .inr (6, [.int 0, .int 0, .null, .int 0]))] sz) [(ro, .inr (6, [.int 4, .int 8, .ref ca, .int 0])), (ca, .inl (cc0, 32, .inl (fun _ => 0)))]) (va_A [(ro, .inr (6, [.int 0, .int 0, .null, .int 0]))] sz)) 1 32 (va_A [(ro, .inr (6, [.int 0, .int 0, .null, .int 0]))] sz) := by
  refine Met.ofW (cc := cX6_init) (maxL := 3) (ret := none) (by decide) rfl ?_
  intro p e s m args below meth c s₁ B hml hv
  obtain ⟨rfl, hsz, hP, hK, hD0⟩ := hv
  have hx := B.exec
  have hb := B.bytes
  have hr := B.returns
  have hts := atoms_spec (ws := wsX6_init) B.pre
  have hown : s.vm.findClass RX6 = some m.cls := findClass_of_methodNamed B.named
  have hlocks := B.notSynchronized
  have hin : meth.name = "<init>" := (name_of_methodNamed B.named B.method).1
  subst hsz
  have hD := hD0.self (sz := s.heap.size)
  generalize hAe : va_A [(ro, .inr (6, [.int 0, .int 0, .null, .int 0]))] s.heap.size = A at hD ⊢
  have hA : ∀ q : Nat, s.heap.size ≤ q → A q := fun q h => by rw [← hAe]; exact Or.inr h
  have hS : va_S A s.heap s.heap [] := va_S.rf
  have hP : va_P (dC, dI) vwCl [(ro, .inr (6, [.int 0, .int 0, .null, .int 0]))] s.heap := hP
  have hl := lv_entry ([.ref ro, .int 8, .int 4]) (n := 3) (Nat.le_of_ble_eq_true rfl)
  rw [lg_entry_eq]
  generalize (lg_sl ([.ref ro, .int 8, .int 4]) ++ List.replicate (3 - (lg_sl ([.ref ro, .int 8, .int 4])).length) Slot.unset).toArray = ls at hl ⊢
  have hl : lv_has ls 3 [(0, .ref ro), (1, .int 8), (2, .int 4)] := hl
  refine lv_aload_n hx hb dX6_init_0 rfl (lv_at hl 0 rfl) ?_
  refine W.objInit hx hb hown (hts (.methodLink RX6 3 objectInit) (by decide +kernel)) (hts (.instanceMethod objectInit) (by decide +kernel)) (hts (.code objectInit ⟨#[0xb1]⟩ 1 none) (by decide +kernel)) rfl (by rw [hml]; exact hl.1) rfl dX6_init_1 (Nat.le_of_ble_eq_true rfl) (Nat.le_of_ble_eq_true rfl) ?_
  refine W.eq (g2 := F0 m 4 ls []) rfl ?_
  refine lv_aload_n hx hb dX6_init_4 rfl (lv_at hl 0 rfl) ?_
  refine lv_iconst (v := 0) hx hb dX6_init_5 (by decide) ?_
  refine va_put (D := (dC, dI)) (ci := 6) (v := .int 0) (ty := .int) (C := RX6) (T := TX6) (N := 4) hx hb hts iw_i_rows_32_X6 tyX6 tyX6_ok nmX6 hown hK hP hD hS 0 rfl rfl 3 (by decide) (hts (.fieldLink RX6 9 "ThriceCounted$Rows" "size" "I") (by decide +kernel)) (fun _ h9 => h9) rfl (by decide +kernel) rfl rfl (Nat.le_of_ble_eq_true rfl) dX6_init_6 (fun H locs hP hD hS => ?_)
  have hP : va_P (dC, dI) vwCl [(ro, .inr (6, [.int 0, .int 0, .null, .int 0]))] H := hP
  have hD : va_D A [(ro, .inr (6, [.int 0, .int 0, .null, .int 0]))] := hD
  refine lv_aload_n hx hb dX6_init_9 rfl (lv_at hl 0 rfl) ?_
  refine lv_iconst (v := 0) hx hb dX6_init_10 (by decide) ?_
  refine lv_iload_n hx hb dX6_init_11 rfl (lv_at hl 1 rfl) ?_
  refine va_mmax hx hb (hml.trans hl.1.symm) hown (hts (.methodLink RX6 15 Lib.Math.max.name) (by decide +kernel)) (hts (.static Lib.Math.max.name) (by decide +kernel)) (hts (.initialized "java/lang/Math") (by decide +kernel)) (hts (.code Lib.Math.max.name Lib.Math.max.code 2 (some .int)) (by decide +kernel)) (Nat.le_of_ble_eq_true rfl) (Nat.le_of_ble_eq_true rfl) (Nat.le_of_ble_eq_true rfl) (Nat.le_of_ble_eq_true rfl) dX6_init_12 ?_
  refine tz_i 8 (by decide) ?_
  refine va_putF (D := (dC, dI)) (ci := 6) (v := .int 8) (ty := .int) (C := RX6) (T := TX6) (N := 4) hx hb hts iw_i_rows_32_X6 tyX6 tyX6_ok nmX6 hown hK hP hD hS 0 rfl rfl 1 (by decide) (hts (.fieldLink RX6 21 "ThriceCounted$Rows" "limit" "I") (by decide +kernel)) (fun _ h9 => h9) rfl hin rfl (by decide +kernel) rfl rfl (Nat.le_of_ble_eq_true rfl) dX6_init_15 (fun H locs hP hD hS => ?_)
  have hP : va_P (dC, dI) vwCl [(ro, .inr (6, [.int 0, .int 8, .null, .int 0]))] H := hP
  have hD : va_D A [(ro, .inr (6, [.int 0, .int 8, .null, .int 0]))] := hD
  refine lv_aload_n hx hb dX6_init_18 rfl (lv_at hl 0 rfl) ?_
  refine lv_iconst (v := 0) hx hb dX6_init_19 (by decide) ?_
  refine lv_iload_n hx hb dX6_init_20 rfl (lv_at hl 2 rfl) ?_
  refine va_mmax hx hb (hml.trans hl.1.symm) hown (hts (.methodLink RX6 15 Lib.Math.max.name) (by decide +kernel)) (hts (.static Lib.Math.max.name) (by decide +kernel)) (hts (.initialized "java/lang/Math") (by decide +kernel)) (hts (.code Lib.Math.max.name Lib.Math.max.code 2 (some .int)) (by decide +kernel)) (Nat.le_of_ble_eq_true rfl) (Nat.le_of_ble_eq_true rfl) (Nat.le_of_ble_eq_true rfl) (Nat.le_of_ble_eq_true rfl) dX6_init_21 ?_
  refine tz_i 4 (by decide) ?_
  refine va_putF (D := (dC, dI)) (ci := 6) (v := .int 4) (ty := .int) (C := RX6) (T := TX6) (N := 4) hx hb hts iw_i_rows_32_X6 tyX6 tyX6_ok nmX6 hown hK hP hD hS 0 rfl rfl 0 (by decide) (hts (.fieldLink RX6 24 "ThriceCounted$Rows" "width" "I") (by decide +kernel)) (fun _ h9 => h9) rfl hin rfl (by decide +kernel) rfl rfl (Nat.le_of_ble_eq_true rfl) dX6_init_24 (fun H locs hP hD hS => ?_)
  have hP : va_P (dC, dI) vwCl [(ro, .inr (6, [.int 4, .int 8, .null, .int 0]))] H := hP
  have hD : va_D A [(ro, .inr (6, [.int 4, .int 8, .null, .int 0]))] := hD
  refine lv_aload_n hx hb dX6_init_27 rfl (lv_at hl 0 rfl) ?_
  refine lv_aload_n hx hb dX6_init_28 rfl (lv_at hl 0 rfl) ?_
  refine va_get (D := (dC, dI)) (ci := 6) (v := .int 8) (C := RX6) (T := TX6) (N := 4) hx hb hts iw_i_rows_32_X6 hown hK hP 0 rfl rfl 1 (by decide) (hts (.fieldLink RX6 21 "ThriceCounted$Rows" "limit" "I") (by decide +kernel)) (fun _ h9 => h9) rfl dX6_init_29 ?_
  refine lv_aload_n hx hb dX6_init_32 rfl (lv_at hl 0 rfl) ?_
  refine va_get (D := (dC, dI)) (ci := 6) (v := .int 4) (C := RX6) (T := TX6) (N := 4) hx hb hts iw_i_rows_32_X6 hown hK hP 0 rfl rfl 0 (by decide) (hts (.fieldLink RX6 24 "ThriceCounted$Rows" "width" "I") (by decide +kernel)) (fun _ h9 => h9) rfl dX6_init_33 ?_
  refine lv_imul hx hb dX6_init_36 ?_
  refine tz_i 32 (by decide) ?_
  refine va_newa (atype := .int) (ty := .int) (a0 := (32, .inl (fun _ => 0))) (N' := 32) hx hb (hts (.arrayClass .int) (by decide +kernel)) rfl hK hP hD hS hA (fun _ => rfl) (by decide) (by decide) (Nat.le_of_ble_eq_true rfl) (Nat.le_of_ble_eq_true rfl) (Nat.le_of_ble_eq_true rfl) dX6_init_37 (fun q_1 cA_2 H hK hP hD hS => ?_)
  have hK : va_K (dC, dI) vwCl [(cA_2, .int)] s := hK
  have hP : va_P (dC, dI) vwCl [(ro, .inr (6, [.int 4, .int 8, .null, .int 0])), (q_1, .inl (cA_2, 32, .inl (fun _ => 0)))] H := hP
  have hD : va_D A [(ro, .inr (6, [.int 4, .int 8, .null, .int 0])), (q_1, .inl (cA_2, 32, .inl (fun _ => 0)))] := hD
  refine W.widen (k := 1) (n := 32) (Nat.le_of_ble_eq_true rfl) (Nat.le_of_ble_eq_true rfl) ?_
  refine va_putF (D := (dC, dI)) (ci := 6) (v := .ref q_1) (ty := .array .int) (C := RX6) (T := TX6) (N := 4) hx hb hts iw_i_rows_32_X6 tyX6 tyX6_ok nmX6 hown hK hP hD hS 0 rfl rfl 2 (by decide) (hts (.fieldLink RX6 27 "ThriceCounted$Rows" "cells" "[I") (by decide +kernel)) (fun _ h9 => h9) rfl hin rfl (by decide +kernel) rfl rfl (Nat.le_of_ble_eq_true rfl) dX6_init_39 (fun H locs hP hD hS => ?_)
  have hP : va_P (dC, dI) vwCl [(ro, .inr (6, [.int 4, .int 8, .ref q_1, .int 0])), (q_1, .inl (cA_2, 32, .inl (fun _ => 0)))] H := hP
  have hD : va_D A [(ro, .inr (6, [.int 4, .int 8, .ref q_1, .int 0])), (q_1, .inl (cA_2, 32, .inl (fun _ => 0)))] := hD
  have hP9 := hP.sub (ws' := [(ro, .inr (6, [.int 4, .int 8, .ref q_1, .int 0])), (q_1, .inl (cA_2, 32, .inl (fun _ => 0)))]) [0, 1] rfl
  have hD9 := hD.sub (ws' := [(ro, .inr (6, [.int 4, .int 8, .ref q_1, .int 0])), (q_1, .inl (cA_2, 32, .inl (fun _ => 0)))]) [0, 1] (by decide) rfl
  have hK9 := hK.sub (tys' := [(cA_2, .int)]) [0] rfl
  refine W.widen (k := 1) (n := 32) (Nat.le_of_ble_eq_true rfl) (Nat.le_of_ble_eq_true rfl) ?_
  exact W.vret hx hb hr (fun t ht hW => ⟨⟨(), rfl, trivial, q_1, cA_2, by rw [ht]; exact hP9, va_K.moved hW.alike hK9, hD9⟩, hS.F ht⟩) hS.2.2 dX6_init_42
set_option maxRecDepth 20000 in
theorem iw_i_rows_24_X6 : ∀ w ∈ wsX60, w ∈ wsX6_init := by decide +kernel
set_option maxHeartbeats 4000000 in
set_option maxRecDepth 100000 in
theorem i_rows_24 (l : Launch) (dC : Nat → ClassId) (dI : Nat → Nat → Nat) (ro : Nat) (sz : Nat) : Met l yX6_init wsX6_init ({ frames := 1, cells := 1, slots := 24, locals := 14 }) (va_Pc [.ref ro, .int 6, .int 4] (fun U => U.heap.size = sz ∧ va_P (dC, dI) vwCl [(ro, .inr (6, [.int 0, .int 0, .null, .int 0]))] U.heap ∧ va_K (dC, dI) vwCl [] U ∧ va_D (fun _ => True) [(ro, .inr (6, [.int 0, .int 0, .null, .int 0]))])) (va_Qv (fun (_ : Unit) => True) (fun _ t => ∃ (ca : Nat) (cc0 : ClassId), va_P (dC, dI) vwCl [(ro, .inr (6, [.int 4, .int 6, .ref ca, .int 0])), (ca, .inl (cc0, 24, .inl (fun _ => 0)))] t.heap ∧ va_K (dC, dI) vwCl [(cc0, .int)] t ∧ va_D (va_A [(ro, .inr (6, [.int 0, .int 0, .null, .int 0]))] sz) [(ro, .inr (6, [.int 4, .int 6, .ref ca, .int 0])), (ca, .inl (cc0, 24, .inl (fun _ => 0)))]) (va_A [(ro, .inr (6, [.int 0, .int 0, .null, .int 0]))] sz)) 1 24 (va_A [(ro, .inr (6, [.int 0, .int 0, .null, .int 0]))] sz) := by
  refine Met.ofW (cc := cX6_init) (maxL := 3) (ret := none) (by decide) rfl ?_
  intro p e s m args below meth c s₁ B hml hv
  obtain ⟨rfl, hsz, hP, hK, hD0⟩ := hv
  have hx := B.exec
  have hb := B.bytes
  have hr := B.returns
  have hts := atoms_spec (ws := wsX6_init) B.pre
  have hown : s.vm.findClass RX6 = some m.cls := findClass_of_methodNamed B.named
  have hlocks := B.notSynchronized
  have hin : meth.name = "<init>" := (name_of_methodNamed B.named B.method).1
  subst hsz
  have hD := hD0.self (sz := s.heap.size)
  generalize hAe : va_A [(ro, .inr (6, [.int 0, .int 0, .null, .int 0]))] s.heap.size = A at hD ⊢
  have hA : ∀ q : Nat, s.heap.size ≤ q → A q := fun q h => by rw [← hAe]; exact Or.inr h
  have hS : va_S A s.heap s.heap [] := va_S.rf
  have hP : va_P (dC, dI) vwCl [(ro, .inr (6, [.int 0, .int 0, .null, .int 0]))] s.heap := hP
  have hl := lv_entry ([.ref ro, .int 6, .int 4]) (n := 3) (Nat.le_of_ble_eq_true rfl)
  rw [lg_entry_eq]
  generalize (lg_sl ([.ref ro, .int 6, .int 4]) ++ List.replicate (3 - (lg_sl ([.ref ro, .int 6, .int 4])).length) Slot.unset).toArray = ls at hl ⊢
  have hl : lv_has ls 3 [(0, .ref ro), (1, .int 6), (2, .int 4)] := hl
  refine lv_aload_n hx hb dX6_init_0 rfl (lv_at hl 0 rfl) ?_
  refine W.objInit hx hb hown (hts (.methodLink RX6 3 objectInit) (by decide +kernel)) (hts (.instanceMethod objectInit) (by decide +kernel)) (hts (.code objectInit ⟨#[0xb1]⟩ 1 none) (by decide +kernel)) rfl (by rw [hml]; exact hl.1) rfl dX6_init_1 (Nat.le_of_ble_eq_true rfl) (Nat.le_of_ble_eq_true rfl) ?_
  refine W.eq (g2 := F0 m 4 ls []) rfl ?_
  refine lv_aload_n hx hb dX6_init_4 rfl (lv_at hl 0 rfl) ?_
  refine lv_iconst (v := 0) hx hb dX6_init_5 (by decide) ?_
  refine va_put (D := (dC, dI)) (ci := 6) (v := .int 0) (ty := .int) (C := RX6) (T := TX6) (N := 4) hx hb hts iw_i_rows_24_X6 tyX6 tyX6_ok nmX6 hown hK hP hD hS 0 rfl rfl 3 (by decide) (hts (.fieldLink RX6 9 "ThriceCounted$Rows" "size" "I") (by decide +kernel)) (fun _ h9 => h9) rfl (by decide +kernel) rfl rfl (Nat.le_of_ble_eq_true rfl) dX6_init_6 (fun H locs hP hD hS => ?_)
  have hP : va_P (dC, dI) vwCl [(ro, .inr (6, [.int 0, .int 0, .null, .int 0]))] H := hP
  have hD : va_D A [(ro, .inr (6, [.int 0, .int 0, .null, .int 0]))] := hD
  refine lv_aload_n hx hb dX6_init_9 rfl (lv_at hl 0 rfl) ?_
  refine lv_iconst (v := 0) hx hb dX6_init_10 (by decide) ?_
  refine lv_iload_n hx hb dX6_init_11 rfl (lv_at hl 1 rfl) ?_
  refine va_mmax hx hb (hml.trans hl.1.symm) hown (hts (.methodLink RX6 15 Lib.Math.max.name) (by decide +kernel)) (hts (.static Lib.Math.max.name) (by decide +kernel)) (hts (.initialized "java/lang/Math") (by decide +kernel)) (hts (.code Lib.Math.max.name Lib.Math.max.code 2 (some .int)) (by decide +kernel)) (Nat.le_of_ble_eq_true rfl) (Nat.le_of_ble_eq_true rfl) (Nat.le_of_ble_eq_true rfl) (Nat.le_of_ble_eq_true rfl) dX6_init_12 ?_
  refine tz_i 6 (by decide) ?_
  refine va_putF (D := (dC, dI)) (ci := 6) (v := .int 6) (ty := .int) (C := RX6) (T := TX6) (N := 4) hx hb hts iw_i_rows_24_X6 tyX6 tyX6_ok nmX6 hown hK hP hD hS 0 rfl rfl 1 (by decide) (hts (.fieldLink RX6 21 "ThriceCounted$Rows" "limit" "I") (by decide +kernel)) (fun _ h9 => h9) rfl hin rfl (by decide +kernel) rfl rfl (Nat.le_of_ble_eq_true rfl) dX6_init_15 (fun H locs hP hD hS => ?_)
  have hP : va_P (dC, dI) vwCl [(ro, .inr (6, [.int 0, .int 6, .null, .int 0]))] H := hP
  have hD : va_D A [(ro, .inr (6, [.int 0, .int 6, .null, .int 0]))] := hD
  refine lv_aload_n hx hb dX6_init_18 rfl (lv_at hl 0 rfl) ?_
  refine lv_iconst (v := 0) hx hb dX6_init_19 (by decide) ?_
  refine lv_iload_n hx hb dX6_init_20 rfl (lv_at hl 2 rfl) ?_
  refine va_mmax hx hb (hml.trans hl.1.symm) hown (hts (.methodLink RX6 15 Lib.Math.max.name) (by decide +kernel)) (hts (.static Lib.Math.max.name) (by decide +kernel)) (hts (.initialized "java/lang/Math") (by decide +kernel)) (hts (.code Lib.Math.max.name Lib.Math.max.code 2 (some .int)) (by decide +kernel)) (Nat.le_of_ble_eq_true rfl) (Nat.le_of_ble_eq_true rfl) (Nat.le_of_ble_eq_true rfl) (Nat.le_of_ble_eq_true rfl) dX6_init_21 ?_
  refine tz_i 4 (by decide) ?_
  refine va_putF (D := (dC, dI)) (ci := 6) (v := .int 4) (ty := .int) (C := RX6) (T := TX6) (N := 4) hx hb hts iw_i_rows_24_X6 tyX6 tyX6_ok nmX6 hown hK hP hD hS 0 rfl rfl 0 (by decide) (hts (.fieldLink RX6 24 "ThriceCounted$Rows" "width" "I") (by decide +kernel)) (fun _ h9 => h9) rfl hin rfl (by decide +kernel) rfl rfl (Nat.le_of_ble_eq_true rfl) dX6_init_24 (fun H locs hP hD hS => ?_)
  have hP : va_P (dC, dI) vwCl [(ro, .inr (6, [.int 4, .int 6, .null, .int 0]))] H := hP
  have hD : va_D A [(ro, .inr (6, [.int 4, .int 6, .null, .int 0]))] := hD
  refine lv_aload_n hx hb dX6_init_27 rfl (lv_at hl 0 rfl) ?_
  refine lv_aload_n hx hb dX6_init_28 rfl (lv_at hl 0 rfl) ?_
  refine va_get (D := (dC, dI)) (ci := 6) (v := .int 6) (C := RX6) (T := TX6) (N := 4) hx hb hts iw_i_rows_24_X6 hown hK hP 0 rfl rfl 1 (by decide) (hts (.fieldLink RX6 21 "ThriceCounted$Rows" "limit" "I") (by decide +kernel)) (fun _ h9 => h9) rfl dX6_init_29 ?_
  refine lv_aload_n hx hb dX6_init_32 rfl (lv_at hl 0 rfl) ?_
  refine va_get (D := (dC, dI)) (ci := 6) (v := .int 4) (C := RX6) (T := TX6) (N := 4) hx hb hts iw_i_rows_24_X6 hown hK hP 0 rfl rfl 0 (by decide) (hts (.fieldLink RX6 24 "ThriceCounted$Rows" "width" "I") (by decide +kernel)) (fun _ h9 => h9) rfl dX6_init_33 ?_
  refine lv_imul hx hb dX6_init_36 ?_
  refine tz_i 24 (by decide) ?_
  refine va_newa (atype := .int) (ty := .int) (a0 := (24, .inl (fun _ => 0))) (N' := 24) hx hb (hts (.arrayClass .int) (by decide +kernel)) rfl hK hP hD hS hA (fun _ => rfl) (by decide) (by decide) (Nat.le_of_ble_eq_true rfl) (Nat.le_of_ble_eq_true rfl) (Nat.le_of_ble_eq_true rfl) dX6_init_37 (fun q_1 cA_2 H hK hP hD hS => ?_)
  have hK : va_K (dC, dI) vwCl [(cA_2, .int)] s := hK
  have hP : va_P (dC, dI) vwCl [(ro, .inr (6, [.int 4, .int 6, .null, .int 0])), (q_1, .inl (cA_2, 24, .inl (fun _ => 0)))] H := hP
  have hD : va_D A [(ro, .inr (6, [.int 4, .int 6, .null, .int 0])), (q_1, .inl (cA_2, 24, .inl (fun _ => 0)))] := hD
  refine W.widen (k := 1) (n := 24) (Nat.le_of_ble_eq_true rfl) (Nat.le_of_ble_eq_true rfl) ?_
  refine va_putF (D := (dC, dI)) (ci := 6) (v := .ref q_1) (ty := .array .int) (C := RX6) (T := TX6) (N := 4) hx hb hts iw_i_rows_24_X6 tyX6 tyX6_ok nmX6 hown hK hP hD hS 0 rfl rfl 2 (by decide) (hts (.fieldLink RX6 27 "ThriceCounted$Rows" "cells" "[I") (by decide +kernel)) (fun _ h9 => h9) rfl hin rfl (by decide +kernel) rfl rfl (Nat.le_of_ble_eq_true rfl) dX6_init_39 (fun H locs hP hD hS => ?_)
  have hP : va_P (dC, dI) vwCl [(ro, .inr (6, [.int 4, .int 6, .ref q_1, .int 0])), (q_1, .inl (cA_2, 24, .inl (fun _ => 0)))] H := hP
  have hD : va_D A [(ro, .inr (6, [.int 4, .int 6, .ref q_1, .int 0])), (q_1, .inl (cA_2, 24, .inl (fun _ => 0)))] := hD
  have hP9 := hP.sub (ws' := [(ro, .inr (6, [.int 4, .int 6, .ref q_1, .int 0])), (q_1, .inl (cA_2, 24, .inl (fun _ => 0)))]) [0, 1] rfl
  have hD9 := hD.sub (ws' := [(ro, .inr (6, [.int 4, .int 6, .ref q_1, .int 0])), (q_1, .inl (cA_2, 24, .inl (fun _ => 0)))]) [0, 1] (by decide) rfl
  have hK9 := hK.sub (tys' := [(cA_2, .int)]) [0] rfl
  refine W.widen (k := 1) (n := 24) (Nat.le_of_ble_eq_true rfl) (Nat.le_of_ble_eq_true rfl) ?_
  exact W.vret hx hb hr (fun t ht hW => ⟨⟨(), rfl, trivial, q_1, cA_2, by rw [ht]; exact hP9, va_K.moved hW.alike hK9, hD9⟩, hS.F ht⟩) hS.2.2 dX6_init_42
set_option maxRecDepth 20000 in
theorem ggX0_init_X6_init : GoodIn wsX0_init wsX6_init := goodIn_r _ [15, 16, 2, 3, 17, 18, 19, 20, 21, 22, 23, 24, 25, 26, 27, 28, 29] (by decide +kernel) (by decide +kernel)
set_option maxRecDepth 20000 in
theorem gX0_init_X6_init : GoodIn wsX0_init (wsX6_init) := ggX0_init_X6_init
theorem dX0_init_0 : decode cX0_init 0 = .ok (.aload_n 0, 1) := by decide +kernel
theorem dX0_init_1 : decode cX0_init 1 = .ok (.invokespecial 3, 3) := by decide +kernel
theorem dX0_init_4 : decode cX0_init 4 = .ok (.aload_n 0, 1) := by decide +kernel
theorem dX0_init_5 : decode cX0_init 5 = .ok (.new 9, 3) := by decide +kernel
theorem dX0_init_8 : decode cX0_init 8 = .ok (.dup, 1) := by decide +kernel
theorem dX0_init_9 : decode cX0_init 9 = .ok (.iconst 5, 1) := by decide +kernel
theorem dX0_init_10 : decode cX0_init 10 = .ok (.iconst 1, 1) := by decide +kernel
theorem dX0_init_11 : decode cX0_init 11 = .ok (.invokespecial 11, 3) := by decide +kernel
theorem dX0_init_14 : decode cX0_init 14 = .ok (.putfield 14, 3) := by decide +kernel
theorem dX0_init_17 : decode cX0_init 17 = .ok (.aload_n 0, 1) := by decide +kernel
theorem dX0_init_18 : decode cX0_init 18 = .ok (.new 9, 3) := by decide +kernel
theorem dX0_init_21 : decode cX0_init 21 = .ok (.dup, 1) := by decide +kernel
theorem dX0_init_22 : decode cX0_init 22 = .ok (.iconst 5, 1) := by decide +kernel
theorem dX0_init_23 : decode cX0_init 23 = .ok (.iconst 4, 1) := by decide +kernel
theorem dX0_init_24 : decode cX0_init 24 = .ok (.invokespecial 11, 3) := by decide +kernel
theorem dX0_init_27 : decode cX0_init 27 = .ok (.putfield 20, 3) := by decide +kernel
theorem dX0_init_30 : decode cX0_init 30 = .ok (.aload_n 0, 1) := by decide +kernel
theorem dX0_init_31 : decode cX0_init 31 = .ok (.new 9, 3) := by decide +kernel
theorem dX0_init_34 : decode cX0_init 34 = .ok (.dup, 1) := by decide +kernel
theorem dX0_init_35 : decode cX0_init 35 = .ok (.bipush 8, 2) := by decide +kernel
theorem dX0_init_37 : decode cX0_init 37 = .ok (.iconst 4, 1) := by decide +kernel
theorem dX0_init_38 : decode cX0_init 38 = .ok (.invokespecial 11, 3) := by decide +kernel
theorem dX0_init_41 : decode cX0_init 41 = .ok (.putfield 23, 3) := by decide +kernel
theorem dX0_init_44 : decode cX0_init 44 = .ok (.aload_n 0, 1) := by decide +kernel
theorem dX0_init_45 : decode cX0_init 45 = .ok (.new 9, 3) := by decide +kernel
theorem dX0_init_48 : decode cX0_init 48 = .ok (.dup, 1) := by decide +kernel
theorem dX0_init_49 : decode cX0_init 49 = .ok (.bipush 6, 2) := by decide +kernel
theorem dX0_init_51 : decode cX0_init 51 = .ok (.iconst 4, 1) := by decide +kernel
theorem dX0_init_52 : decode cX0_init 52 = .ok (.invokespecial 11, 3) := by decide +kernel
theorem dX0_init_55 : decode cX0_init 55 = .ok (.putfield 26, 3) := by decide +kernel
theorem dX0_init_58 : decode cX0_init 58 = .ok (.aload_n 0, 1) := by decide +kernel
theorem dX0_init_59 : decode cX0_init 59 = .ok (.bipush 8, 2) := by decide +kernel
theorem dX0_init_61 : decode cX0_init 61 = .ok (.anewarray 9, 3) := by decide +kernel
theorem dX0_init_64 : decode cX0_init 64 = .ok (.putfield 29, 3) := by decide +kernel
theorem dX0_init_67 : decode cX0_init 67 = .ok (.aload_n 0, 1) := by decide +kernel
theorem dX0_init_68 : decode cX0_init 68 = .ok (.iconst 0, 1) := by decide +kernel
theorem dX0_init_69 : decode cX0_init 69 = .ok (.putfield 33, 3) := by decide +kernel
theorem dX0_init_72 : decode cX0_init 72 = .ok (.iconst 0, 1) := by decide +kernel
theorem dX0_init_73 : decode cX0_init 73 = .ok (.istore_n 1, 1) := by decide +kernel
theorem dX0_init_74 : decode cX0_init 74 = .ok (.iload_n 1, 1) := by decide +kernel
theorem dX0_init_75 : decode cX0_init 75 = .ok (.aload_n 0, 1) := by decide +kernel
theorem dX0_init_76 : decode cX0_init 76 = .ok (.getfield 29, 3) := by decide +kernel
theorem dX0_init_79 : decode cX0_init 79 = .ok (.arraylength, 1) := by decide +kernel
theorem dX0_init_80 : decode cX0_init 80 = .ok (.if_icmp .ge 25, 3) := by decide +kernel
theorem dX0_init_83 : decode cX0_init 83 = .ok (.aload_n 0, 1) := by decide +kernel
theorem dX0_init_84 : decode cX0_init 84 = .ok (.getfield 29, 3) := by decide +kernel
theorem dX0_init_87 : decode cX0_init 87 = .ok (.iload_n 1, 1) := by decide +kernel
theorem dX0_init_88 : decode cX0_init 88 = .ok (.new 9, 3) := by decide +kernel
theorem dX0_init_91 : decode cX0_init 91 = .ok (.dup, 1) := by decide +kernel
theorem dX0_init_92 : decode cX0_init 92 = .ok (.bipush 8, 2) := by decide +kernel
theorem dX0_init_94 : decode cX0_init 94 = .ok (.iconst 4, 1) := by decide +kernel
theorem dX0_init_95 : decode cX0_init 95 = .ok (.invokespecial 11, 3) := by decide +kernel
theorem dX0_init_98 : decode cX0_init 98 = .ok (.aastore, 1) := by decide +kernel
theorem dX0_init_99 : decode cX0_init 99 = .ok (.iinc 1 1, 3) := by decide +kernel
theorem dX0_init_102 : decode cX0_init 102 = .ok (.goto (-28), 3) := by decide +kernel
theorem dX0_init_105 : decode cX0_init 105 = .ok (.return_, 1) := by decide +kernel
set_option maxRecDepth 20000 in
theorem iw_i_bank_X6 : ∀ w ∈ wsX60, w ∈ wsX0_init := by decide +kernel
set_option maxRecDepth 20000 in
theorem iw_i_bank_X0 : ∀ w ∈ wsX00, w ∈ wsX0_init := by decide +kernel
set_option maxHeartbeats 4000000 in
set_option maxRecDepth 100000 in
theorem i_bank (l : Launch) (dC : Nat → ClassId) (dI : Nat → Nat → Nat) (bo : Nat) (sz : Nat) : Met l yX0_init wsX0_init ({ frames := 2, cells := 25, slots := 393, locals := 36 }) (va_Pc [.ref bo] (fun U => U.heap.size = sz ∧ va_P (dC, dI) vwCl [(bo, .inr (0, [.null, .null, .null, .null, .null, .int 0]))] U.heap ∧ va_K (dC, dI) vwCl [] U ∧ va_D (fun _ => True) [(bo, .inr (0, [.null, .null, .null, .null, .null, .int 0]))] ∧ tz_N U)) (va_Qv (fun (_ : Unit) => True) (fun _ t => ∃ (ag : Nat → Nat) (cg : Nat → ClassId) (fg : Nat → Nat → Int32) (zg : Nat → Nat) (ug : Nat), (ag 0 = bo) ∧ ((∀ i, zg i ≤ tz_lim i) ∧ ug ≤ 8) ∧ va_P (dC, dI) vwCl [((ag 0), .inr (0, [.ref (ag 1), .ref (ag 3), .ref (ag 5), .ref (ag 7), .ref (ag 9), .int (nI ug)])), ((ag 1), .inr (6, [.int 1, .int 5, .ref (ag 2), .int (nI (zg 0))])), ((ag 2), .inl ((cg 0), 5, .inl (fg 0))), ((ag 3), .inr (6, [.int 4, .int 5, .ref (ag 4), .int (nI (zg 1))])), ((ag 4), .inl ((cg 1), 20, .inl (fg 1))), ((ag 5), .inr (6, [.int 4, .int 8, .ref (ag 6), .int (nI (zg 2))])), ((ag 6), .inl ((cg 2), 32, .inl (fg 2))), ((ag 7), .inr (6, [.int 4, .int 6, .ref (ag 8), .int (nI (zg 3))])), ((ag 8), .inl ((cg 3), 24, .inl (fg 3))), ((ag 9), .inl ((cg 12), 8, .inr (.inr (.inr (.inr (tz_ear ag)))))), ((ag 10), .inr (6, [.int 4, .int 8, .ref (ag 11), .int (nI (zg 4))])), ((ag 11), .inl ((cg 4), 32, .inl (fg 4))), ((ag 12), .inr (6, [.int 4, .int 8, .ref (ag 13), .int (nI (zg 5))])), ((ag 13), .inl ((cg 5), 32, .inl (fg 5))), ((ag 14), .inr (6, [.int 4, .int 8, .ref (ag 15), .int (nI (zg 6))])), ((ag 15), .inl ((cg 6), 32, .inl (fg 6))), ((ag 16), .inr (6, [.int 4, .int 8, .ref (ag 17), .int (nI (zg 7))])), ((ag 17), .inl ((cg 7), 32, .inl (fg 7))), ((ag 18), .inr (6, [.int 4, .int 8, .ref (ag 19), .int (nI (zg 8))])), ((ag 19), .inl ((cg 8), 32, .inl (fg 8))), ((ag 20), .inr (6, [.int 4, .int 8, .ref (ag 21), .int (nI (zg 9))])), ((ag 21), .inl ((cg 9), 32, .inl (fg 9))), ((ag 22), .inr (6, [.int 4, .int 8, .ref (ag 23), .int (nI (zg 10))])), ((ag 23), .inl ((cg 10), 32, .inl (fg 10))), ((ag 24), .inr (6, [.int 4, .int 8, .ref (ag 25), .int (nI (zg 11))])), ((ag 25), .inl ((cg 11), 32, .inl (fg 11)))] t.heap ∧ va_K (dC, dI) vwCl [((cg 0), .int), ((cg 1), .int), ((cg 2), .int), ((cg 3), .int), ((cg 12), (.object "ThriceCounted$Rows")), ((cg 4), .int), ((cg 5), .int), ((cg 6), .int), ((cg 7), .int), ((cg 8), .int), ((cg 9), .int), ((cg 10), .int), ((cg 11), .int)] t ∧ va_D (va_A [(bo, .inr (0, [.null, .null, .null, .null, .null, .int 0]))] sz) [((ag 0), .inr (0, [.ref (ag 1), .ref (ag 3), .ref (ag 5), .ref (ag 7), .ref (ag 9), .int (nI ug)])), ((ag 1), .inr (6, [.int 1, .int 5, .ref (ag 2), .int (nI (zg 0))])), ((ag 2), .inl ((cg 0), 5, .inl (fg 0))), ((ag 3), .inr (6, [.int 4, .int 5, .ref (ag 4), .int (nI (zg 1))])), ((ag 4), .inl ((cg 1), 20, .inl (fg 1))), ((ag 5), .inr (6, [.int 4, .int 8, .ref (ag 6), .int (nI (zg 2))])), ((ag 6), .inl ((cg 2), 32, .inl (fg 2))), ((ag 7), .inr (6, [.int 4, .int 6, .ref (ag 8), .int (nI (zg 3))])), ((ag 8), .inl ((cg 3), 24, .inl (fg 3))), ((ag 9), .inl ((cg 12), 8, .inr (.inr (.inr (.inr (tz_ear ag)))))), ((ag 10), .inr (6, [.int 4, .int 8, .ref (ag 11), .int (nI (zg 4))])), ((ag 11), .inl ((cg 4), 32, .inl (fg 4))), ((ag 12), .inr (6, [.int 4, .int 8, .ref (ag 13), .int (nI (zg 5))])), ((ag 13), .inl ((cg 5), 32, .inl (fg 5))), ((ag 14), .inr (6, [.int 4, .int 8, .ref (ag 15), .int (nI (zg 6))])), ((ag 15), .inl ((cg 6), 32, .inl (fg 6))), ((ag 16), .inr (6, [.int 4, .int 8, .ref (ag 17), .int (nI (zg 7))])), ((ag 17), .inl ((cg 7), 32, .inl (fg 7))), ((ag 18), .inr (6, [.int 4, .int 8, .ref (ag 19), .int (nI (zg 8))])), ((ag 19), .inl ((cg 8), 32, .inl (fg 8))), ((ag 20), .inr (6, [.int 4, .int 8, .ref (ag 21), .int (nI (zg 9))])), ((ag 21), .inl ((cg 9), 32, .inl (fg 9))), ((ag 22), .inr (6, [.int 4, .int 8, .ref (ag 23), .int (nI (zg 10))])), ((ag 23), .inl ((cg 10), 32, .inl (fg 10))), ((ag 24), .inr (6, [.int 4, .int 8, .ref (ag 25), .int (nI (zg 11))])), ((ag 25), .inl ((cg 11), 32, .inl (fg 11)))]) (va_A [(bo, .inr (0, [.null, .null, .null, .null, .null, .int 0]))] sz)) 25 393 (va_A [(bo, .inr (0, [.null, .null, .null, .null, .null, .int 0]))] sz) := by
  refine Met.ofW (cc := cX0_init) (maxL := 2) (ret := none) (by decide) rfl ?_
  intro p e s m args below meth c s₁ B hml hv
  obtain ⟨rfl, hsz, hP, hK, hD0, hN⟩ := hv
  have hx := B.exec
  have hb := B.bytes
  have hr := B.returns
  have hts := atoms_spec (ws := wsX0_init) B.pre
  have hown : s.vm.findClass RX0 = some m.cls := findClass_of_methodNamed B.named
  have hlocks := B.notSynchronized
  have hin : meth.name = "<init>" := (name_of_methodNamed B.named B.method).1
  subst hsz
  have hD := hD0.self (sz := s.heap.size)
  generalize hAe : va_A [(bo, .inr (0, [.null, .null, .null, .null, .null, .int 0]))] s.heap.size = A at hD ⊢
  have hA : ∀ q : Nat, s.heap.size ≤ q → A q := fun q h => by rw [← hAe]; exact Or.inr h
  have hS : va_S A s.heap s.heap [] := va_S.rf
  have hP : va_P (dC, dI) vwCl [(bo, .inr (0, [.null, .null, .null, .null, .null, .int 0]))] s.heap := hP
  have hl := lv_entry ([.ref bo]) (n := 2) (Nat.le_of_ble_eq_true rfl)
  rw [lg_entry_eq]
  generalize (lg_sl ([.ref bo]) ++ List.replicate (2 - (lg_sl ([.ref bo])).length) Slot.unset).toArray = ls at hl ⊢
  have hl : lv_has ls 2 [(0, .ref bo)] := hl
  refine lv_aload_n hx hb dX0_init_0 rfl (lv_at hl 0 rfl) ?_
  refine W.objInit hx hb hown (hts (.methodLink RX0 3 objectInit) (by decide +kernel)) (hts (.instanceMethod objectInit) (by decide +kernel)) (hts (.code objectInit ⟨#[0xb1]⟩ 1 none) (by decide +kernel)) rfl (by rw [hml]; exact hl.1) rfl dX0_init_1 (Nat.le_of_ble_eq_true rfl) (Nat.le_of_ble_eq_true rfl) ?_
  refine W.eq (g2 := F0 m 4 ls []) rfl ?_
  refine lv_aload_n hx hb dX0_init_4 rfl (lv_at hl 0 rfl) ?_
  refine va_new (ci := 6) (fs := [.int 0, .int 0, .null, .int 0]) (C := RX6) (T := TX6) (N := 4) hx hb hts iw_i_bank_X6 tyX6 tyX6_ok hown (hts (.classLink RX0 9 RX6) (by decide +kernel)) (hts (.instantiable RX6 4) (by decide +kernel)) (hts (.initialized RX6) (by decide +kernel)) hK hP hD hS hA rfl (fun j hj => by rcases (show j = 0 ∨ j = 1 ∨ j = 2 ∨ j = 3 by omega) with rfl | rfl | rfl | rfl <;> rfl) (Nat.le_of_ble_eq_true rfl) (Nat.le_of_ble_eq_true rfl) dX0_init_5 (fun q_1 H hP hD hS => ?_)
  have hP : va_P (dC, dI) vwCl [(bo, .inr (0, [.null, .null, .null, .null, .null, .int 0])), (q_1, .inr (6, [.int 0, .int 0, .null, .int 0]))] H := hP
  have hD : va_D A [(bo, .inr (0, [.null, .null, .null, .null, .null, .int 0])), (q_1, .inr (6, [.int 0, .int 0, .null, .int 0]))] := hD
  refine W.widen (k := 1) (n := 4) (Nat.le_of_ble_eq_true rfl) (Nat.le_of_ble_eq_true rfl) ?_
  refine lv_dup hx hb dX0_init_8 rfl ?_
  refine lv_iconst (v := 5) hx hb dX0_init_9 (by decide) ?_
  refine lv_iconst (v := 1) hx hb dX0_init_10 (by decide) ?_
  have hPc := hP.sub (ws' := [(q_1, .inr (6, [.int 0, .int 0, .null, .int 0]))]) [1] rfl
  have hDc := hD.sub (ws' := [(q_1, .inr (6, [.int 0, .int 0, .null, .int 0]))]) [1] (by decide) rfl
  have hKc := hK.sub (tys' := []) [] rfl
  have hFc := va_free (wc := [(q_1, .inr (6, [.int 0, .int 0, .null, .int 0]))]) hD hS hA [1] rfl
  refine va_callv (va_runI (As := [.int 5, .int 1]) (rest := [.ref q_1, .ref bo]) ⟨hx, hb, hml, hown, hts⟩ (i_rows_5 l dC dI q_1 H.size) (cwI 2 hts gX0_init_X6_init rfl rfl rfl (hts (.initialized RX6) (by decide +kernel)) (hts (.methodLink RX0 11 yX6_init) (by decide +kernel)) (hts (.instanceMethod yX6_init) (by decide +kernel)) rfl (by decide +kernel) ⟨Nat.le_of_ble_eq_true rfl, Nat.le_of_ble_eq_true rfl⟩) ⟨fun a U g mk q => by obtain ⟨q0, q1, qP, qK, qD⟩ := q; exact ⟨q0, q1, qP, va_K.moved (u := U) (U := U.calling g mk a) (Vm.Alike.refl U.vm) qK, qD⟩, fun U hU hW => ⟨rfl, by rw [hU], by rw [hU]; exact hPc, va_K.moved hW.alike hKc, hDc.weaken (fun _ _ _ _ => trivial)⟩⟩ rfl rfl hl.1 rfl (lv_room (Nat.le_of_ble_eq_true rfl)) dX0_init_11 ⟨Nat.le_of_ble_eq_true rfl, Nat.le_of_ble_eq_true rfl⟩) hS (fun q _ h => hFc q h) hFc (fun u_ t H1 locs ht hvm hw_3 hB hz1 hk1 hS => ?_)
  obtain ⟨ca_4, cc_5, hP1, hK1, hD1⟩ := hB
  rw [ht] at hP1
  have hK1 := va_K.moved hvm.symm hK1
  obtain ⟨hP, hD⟩ := va_join (wr := [(bo, .inr (0, [.null, .null, .null, .null, .null, .int 0]))]) (w1 := [(q_1, .inr (6, [.int 1, .int 5, .ref ca_4, .int 0])), (ca_4, .inl (cc_5, 5, .inl (fun _ => 0)))]) hP hD [1] [0] rfl rfl (by decide) (by decide) hk1 hFc hP1 hD1
  have hK := hK.app hK1
  have hK : va_K (dC, dI) vwCl [(cc_5, .int)] s := hK
  generalize H1 = H at hP hS ⊢
  have hP : va_P (dC, dI) vwCl [(bo, .inr (0, [.null, .null, .null, .null, .null, .int 0])), (q_1, .inr (6, [.int 1, .int 5, .ref ca_4, .int 0])), (ca_4, .inl (cc_5, 5, .inl (fun _ => 0)))] H := hP
  have hD : va_D A [(bo, .inr (0, [.null, .null, .null, .null, .null, .int 0])), (q_1, .inr (6, [.int 1, .int 5, .ref ca_4, .int 0])), (ca_4, .inl (cc_5, 5, .inl (fun _ => 0)))] := hD
  refine W.widen (k := 2) (n := 9) (Nat.le_of_ble_eq_true rfl) (Nat.le_of_ble_eq_true rfl) ?_
  refine va_putF (D := (dC, dI)) (ci := 0) (v := .ref q_1) (ty := .object "ThriceCounted$Rows") (C := RX0) (T := TX0) (N := 6) hx hb hts iw_i_bank_X0 tyX0 tyX0_ok nmX0 hown hK hP hD hS 0 rfl rfl 0 (by decide) (hts (.fieldLink RX0 14 "ThriceCounted$Bank" "clerks" "LThriceCounted$Rows;") (by decide +kernel)) (fun _ h9 => h9) rfl hin rfl (by decide +kernel) rfl rfl (Nat.le_of_ble_eq_true rfl) dX0_init_14 (fun H locs hP hD hS => ?_)
  have hP : va_P (dC, dI) vwCl [(bo, .inr (0, [.ref q_1, .null, .null, .null, .null, .int 0])), (q_1, .inr (6, [.int 1, .int 5, .ref ca_4, .int 0])), (ca_4, .inl (cc_5, 5, .inl (fun _ => 0)))] H := hP
  have hD : va_D A [(bo, .inr (0, [.ref q_1, .null, .null, .null, .null, .int 0])), (q_1, .inr (6, [.int 1, .int 5, .ref ca_4, .int 0])), (ca_4, .inl (cc_5, 5, .inl (fun _ => 0)))] := hD
  refine lv_aload_n hx hb dX0_init_17 rfl (lv_at hl 0 rfl) ?_
  refine va_new (ci := 6) (fs := [.int 0, .int 0, .null, .int 0]) (C := RX6) (T := TX6) (N := 4) hx hb hts iw_i_bank_X6 tyX6 tyX6_ok hown (hts (.classLink RX0 9 RX6) (by decide +kernel)) (hts (.instantiable RX6 4) (by decide +kernel)) (hts (.initialized RX6) (by decide +kernel)) hK hP hD hS hA rfl (fun j hj => by rcases (show j = 0 ∨ j = 1 ∨ j = 2 ∨ j = 3 by omega) with rfl | rfl | rfl | rfl <;> rfl) (Nat.le_of_ble_eq_true rfl) (Nat.le_of_ble_eq_true rfl) dX0_init_18 (fun q_6 H hP hD hS => ?_)
  have hP : va_P (dC, dI) vwCl [(bo, .inr (0, [.ref q_1, .null, .null, .null, .null, .int 0])), (q_1, .inr (6, [.int 1, .int 5, .ref ca_4, .int 0])), (ca_4, .inl (cc_5, 5, .inl (fun _ => 0))), (q_6, .inr (6, [.int 0, .int 0, .null, .int 0]))] H := hP
  have hD : va_D A [(bo, .inr (0, [.ref q_1, .null, .null, .null, .null, .int 0])), (q_1, .inr (6, [.int 1, .int 5, .ref ca_4, .int 0])), (ca_4, .inl (cc_5, 5, .inl (fun _ => 0))), (q_6, .inr (6, [.int 0, .int 0, .null, .int 0]))] := hD
  refine W.widen (k := 3) (n := 13) (Nat.le_of_ble_eq_true rfl) (Nat.le_of_ble_eq_true rfl) ?_
  refine lv_dup hx hb dX0_init_21 rfl ?_
  refine lv_iconst (v := 5) hx hb dX0_init_22 (by decide) ?_
  refine lv_iconst (v := 4) hx hb dX0_init_23 (by decide) ?_
  have hPc := hP.sub (ws' := [(q_6, .inr (6, [.int 0, .int 0, .null, .int 0]))]) [3] rfl
  have hDc := hD.sub (ws' := [(q_6, .inr (6, [.int 0, .int 0, .null, .int 0]))]) [3] (by decide) rfl
  have hKc := hK.sub (tys' := []) [] rfl
  have hFc := va_free (wc := [(q_6, .inr (6, [.int 0, .int 0, .null, .int 0]))]) hD hS hA [3] rfl
  refine va_callv (va_runI (As := [.int 5, .int 4]) (rest := [.ref q_6, .ref bo]) ⟨hx, hb, hml, hown, hts⟩ (i_rows_20 l dC dI q_6 H.size) (cwI 2 hts gX0_init_X6_init rfl rfl rfl (hts (.initialized RX6) (by decide +kernel)) (hts (.methodLink RX0 11 yX6_init) (by decide +kernel)) (hts (.instanceMethod yX6_init) (by decide +kernel)) rfl (by decide +kernel) ⟨Nat.le_of_ble_eq_true rfl, Nat.le_of_ble_eq_true rfl⟩) ⟨fun a U g mk q => by obtain ⟨q0, q1, qP, qK, qD⟩ := q; exact ⟨q0, q1, qP, va_K.moved (u := U) (U := U.calling g mk a) (Vm.Alike.refl U.vm) qK, qD⟩, fun U hU hW => ⟨rfl, by rw [hU], by rw [hU]; exact hPc, va_K.moved hW.alike hKc, hDc.weaken (fun _ _ _ _ => trivial)⟩⟩ rfl rfl hl.1 rfl (lv_room (Nat.le_of_ble_eq_true rfl)) dX0_init_24 ⟨Nat.le_of_ble_eq_true rfl, Nat.le_of_ble_eq_true rfl⟩) hS (fun q _ h => hFc q h) hFc (fun u_ t H1 locs ht hvm hw_8 hB hz1 hk1 hS => ?_)
  obtain ⟨ca_9, cc_10, hP1, hK1, hD1⟩ := hB
  rw [ht] at hP1
  have hK1 := va_K.moved hvm.symm hK1
  obtain ⟨hP, hD⟩ := va_join (wr := [(bo, .inr (0, [.ref q_1, .null, .null, .null, .null, .int 0])), (q_1, .inr (6, [.int 1, .int 5, .ref ca_4, .int 0])), (ca_4, .inl (cc_5, 5, .inl (fun _ => 0)))]) (w1 := [(q_6, .inr (6, [.int 4, .int 5, .ref ca_9, .int 0])), (ca_9, .inl (cc_10, 20, .inl (fun _ => 0)))]) hP hD [3] [0, 1, 2] rfl rfl (by decide) (by decide) hk1 hFc hP1 hD1
  have hK := hK.app hK1
  have hK : va_K (dC, dI) vwCl [(cc_5, .int), (cc_10, .int)] s := hK
  generalize H1 = H at hP hS ⊢
  have hP : va_P (dC, dI) vwCl [(bo, .inr (0, [.ref q_1, .null, .null, .null, .null, .int 0])), (q_1, .inr (6, [.int 1, .int 5, .ref ca_4, .int 0])), (ca_4, .inl (cc_5, 5, .inl (fun _ => 0))), (q_6, .inr (6, [.int 4, .int 5, .ref ca_9, .int 0])), (ca_9, .inl (cc_10, 20, .inl (fun _ => 0)))] H := hP
  have hD : va_D A [(bo, .inr (0, [.ref q_1, .null, .null, .null, .null, .int 0])), (q_1, .inr (6, [.int 1, .int 5, .ref ca_4, .int 0])), (ca_4, .inl (cc_5, 5, .inl (fun _ => 0))), (q_6, .inr (6, [.int 4, .int 5, .ref ca_9, .int 0])), (ca_9, .inl (cc_10, 20, .inl (fun _ => 0)))] := hD
  refine W.widen (k := 4) (n := 33) (Nat.le_of_ble_eq_true rfl) (Nat.le_of_ble_eq_true rfl) ?_
  refine va_putF (D := (dC, dI)) (ci := 0) (v := .ref q_6) (ty := .object "ThriceCounted$Rows") (C := RX0) (T := TX0) (N := 6) hx hb hts iw_i_bank_X0 tyX0 tyX0_ok nmX0 hown hK hP hD hS 0 rfl rfl 1 (by decide) (hts (.fieldLink RX0 20 "ThriceCounted$Bank" "bundles" "LThriceCounted$Rows;") (by decide +kernel)) (fun _ h9 => h9) rfl hin rfl (by decide +kernel) rfl rfl (Nat.le_of_ble_eq_true rfl) dX0_init_27 (fun H locs hP hD hS => ?_)
  have hP : va_P (dC, dI) vwCl [(bo, .inr (0, [.ref q_1, .ref q_6, .null, .null, .null, .int 0])), (q_1, .inr (6, [.int 1, .int 5, .ref ca_4, .int 0])), (ca_4, .inl (cc_5, 5, .inl (fun _ => 0))), (q_6, .inr (6, [.int 4, .int 5, .ref ca_9, .int 0])), (ca_9, .inl (cc_10, 20, .inl (fun _ => 0)))] H := hP
  have hD : va_D A [(bo, .inr (0, [.ref q_1, .ref q_6, .null, .null, .null, .int 0])), (q_1, .inr (6, [.int 1, .int 5, .ref ca_4, .int 0])), (ca_4, .inl (cc_5, 5, .inl (fun _ => 0))), (q_6, .inr (6, [.int 4, .int 5, .ref ca_9, .int 0])), (ca_9, .inl (cc_10, 20, .inl (fun _ => 0)))] := hD
  refine lv_aload_n hx hb dX0_init_30 rfl (lv_at hl 0 rfl) ?_
  refine va_new (ci := 6) (fs := [.int 0, .int 0, .null, .int 0]) (C := RX6) (T := TX6) (N := 4) hx hb hts iw_i_bank_X6 tyX6 tyX6_ok hown (hts (.classLink RX0 9 RX6) (by decide +kernel)) (hts (.instantiable RX6 4) (by decide +kernel)) (hts (.initialized RX6) (by decide +kernel)) hK hP hD hS hA rfl (fun j hj => by rcases (show j = 0 ∨ j = 1 ∨ j = 2 ∨ j = 3 by omega) with rfl | rfl | rfl | rfl <;> rfl) (Nat.le_of_ble_eq_true rfl) (Nat.le_of_ble_eq_true rfl) dX0_init_31 (fun q_11 H hP hD hS => ?_)
  have hP : va_P (dC, dI) vwCl [(bo, .inr (0, [.ref q_1, .ref q_6, .null, .null, .null, .int 0])), (q_1, .inr (6, [.int 1, .int 5, .ref ca_4, .int 0])), (ca_4, .inl (cc_5, 5, .inl (fun _ => 0))), (q_6, .inr (6, [.int 4, .int 5, .ref ca_9, .int 0])), (ca_9, .inl (cc_10, 20, .inl (fun _ => 0))), (q_11, .inr (6, [.int 0, .int 0, .null, .int 0]))] H := hP
  have hD : va_D A [(bo, .inr (0, [.ref q_1, .ref q_6, .null, .null, .null, .int 0])), (q_1, .inr (6, [.int 1, .int 5, .ref ca_4, .int 0])), (ca_4, .inl (cc_5, 5, .inl (fun _ => 0))), (q_6, .inr (6, [.int 4, .int 5, .ref ca_9, .int 0])), (ca_9, .inl (cc_10, 20, .inl (fun _ => 0))), (q_11, .inr (6, [.int 0, .int 0, .null, .int 0]))] := hD
  refine W.widen (k := 5) (n := 37) (Nat.le_of_ble_eq_true rfl) (Nat.le_of_ble_eq_true rfl) ?_
  refine lv_dup hx hb dX0_init_34 rfl ?_
  refine lv_bipush (v := 8) hx hb dX0_init_35 (by decide) ?_
  refine lv_iconst (v := 4) hx hb dX0_init_37 (by decide) ?_
  have hPc := hP.sub (ws' := [(q_11, .inr (6, [.int 0, .int 0, .null, .int 0]))]) [5] rfl
  have hDc := hD.sub (ws' := [(q_11, .inr (6, [.int 0, .int 0, .null, .int 0]))]) [5] (by decide) rfl
  have hKc := hK.sub (tys' := []) [] rfl
  have hFc := va_free (wc := [(q_11, .inr (6, [.int 0, .int 0, .null, .int 0]))]) hD hS hA [5] rfl
  refine va_callv (va_runI (As := [.int 8, .int 4]) (rest := [.ref q_11, .ref bo]) ⟨hx, hb, hml, hown, hts⟩ (i_rows_32 l dC dI q_11 H.size) (cwI 2 hts gX0_init_X6_init rfl rfl rfl (hts (.initialized RX6) (by decide +kernel)) (hts (.methodLink RX0 11 yX6_init) (by decide +kernel)) (hts (.instanceMethod yX6_init) (by decide +kernel)) rfl (by decide +kernel) ⟨Nat.le_of_ble_eq_true rfl, Nat.le_of_ble_eq_true rfl⟩) ⟨fun a U g mk q => by obtain ⟨q0, q1, qP, qK, qD⟩ := q; exact ⟨q0, q1, qP, va_K.moved (u := U) (U := U.calling g mk a) (Vm.Alike.refl U.vm) qK, qD⟩, fun U hU hW => ⟨rfl, by rw [hU], by rw [hU]; exact hPc, va_K.moved hW.alike hKc, hDc.weaken (fun _ _ _ _ => trivial)⟩⟩ rfl rfl hl.1 rfl (lv_room (Nat.le_of_ble_eq_true rfl)) dX0_init_38 ⟨Nat.le_of_ble_eq_true rfl, Nat.le_of_ble_eq_true rfl⟩) hS (fun q _ h => hFc q h) hFc (fun u_ t H1 locs ht hvm hw_13 hB hz1 hk1 hS => ?_)
  obtain ⟨ca_14, cc_15, hP1, hK1, hD1⟩ := hB
  rw [ht] at hP1
  have hK1 := va_K.moved hvm.symm hK1
  obtain ⟨hP, hD⟩ := va_join (wr := [(bo, .inr (0, [.ref q_1, .ref q_6, .null, .null, .null, .int 0])), (q_1, .inr (6, [.int 1, .int 5, .ref ca_4, .int 0])), (ca_4, .inl (cc_5, 5, .inl (fun _ => 0))), (q_6, .inr (6, [.int 4, .int 5, .ref ca_9, .int 0])), (ca_9, .inl (cc_10, 20, .inl (fun _ => 0)))]) (w1 := [(q_11, .inr (6, [.int 4, .int 8, .ref ca_14, .int 0])), (ca_14, .inl (cc_15, 32, .inl (fun _ => 0)))]) hP hD [5] [0, 1, 2, 3, 4] rfl rfl (by decide) (by decide) hk1 hFc hP1 hD1
  have hK := hK.app hK1
  have hK : va_K (dC, dI) vwCl [(cc_5, .int), (cc_10, .int), (cc_15, .int)] s := hK
  generalize H1 = H at hP hS ⊢
  have hP : va_P (dC, dI) vwCl [(bo, .inr (0, [.ref q_1, .ref q_6, .null, .null, .null, .int 0])), (q_1, .inr (6, [.int 1, .int 5, .ref ca_4, .int 0])), (ca_4, .inl (cc_5, 5, .inl (fun _ => 0))), (q_6, .inr (6, [.int 4, .int 5, .ref ca_9, .int 0])), (ca_9, .inl (cc_10, 20, .inl (fun _ => 0))), (q_11, .inr (6, [.int 4, .int 8, .ref ca_14, .int 0])), (ca_14, .inl (cc_15, 32, .inl (fun _ => 0)))] H := hP
  have hD : va_D A [(bo, .inr (0, [.ref q_1, .ref q_6, .null, .null, .null, .int 0])), (q_1, .inr (6, [.int 1, .int 5, .ref ca_4, .int 0])), (ca_4, .inl (cc_5, 5, .inl (fun _ => 0))), (q_6, .inr (6, [.int 4, .int 5, .ref ca_9, .int 0])), (ca_9, .inl (cc_10, 20, .inl (fun _ => 0))), (q_11, .inr (6, [.int 4, .int 8, .ref ca_14, .int 0])), (ca_14, .inl (cc_15, 32, .inl (fun _ => 0)))] := hD
  refine W.widen (k := 6) (n := 69) (Nat.le_of_ble_eq_true rfl) (Nat.le_of_ble_eq_true rfl) ?_
  refine va_putF (D := (dC, dI)) (ci := 0) (v := .ref q_11) (ty := .object "ThriceCounted$Rows") (C := RX0) (T := TX0) (N := 6) hx hb hts iw_i_bank_X0 tyX0 tyX0_ok nmX0 hown hK hP hD hS 0 rfl rfl 2 (by decide) (hts (.fieldLink RX0 23 "ThriceCounted$Bank" "counts" "LThriceCounted$Rows;") (by decide +kernel)) (fun _ h9 => h9) rfl hin rfl (by decide +kernel) rfl rfl (Nat.le_of_ble_eq_true rfl) dX0_init_41 (fun H locs hP hD hS => ?_)
  have hP : va_P (dC, dI) vwCl [(bo, .inr (0, [.ref q_1, .ref q_6, .ref q_11, .null, .null, .int 0])), (q_1, .inr (6, [.int 1, .int 5, .ref ca_4, .int 0])), (ca_4, .inl (cc_5, 5, .inl (fun _ => 0))), (q_6, .inr (6, [.int 4, .int 5, .ref ca_9, .int 0])), (ca_9, .inl (cc_10, 20, .inl (fun _ => 0))), (q_11, .inr (6, [.int 4, .int 8, .ref ca_14, .int 0])), (ca_14, .inl (cc_15, 32, .inl (fun _ => 0)))] H := hP
  have hD : va_D A [(bo, .inr (0, [.ref q_1, .ref q_6, .ref q_11, .null, .null, .int 0])), (q_1, .inr (6, [.int 1, .int 5, .ref ca_4, .int 0])), (ca_4, .inl (cc_5, 5, .inl (fun _ => 0))), (q_6, .inr (6, [.int 4, .int 5, .ref ca_9, .int 0])), (ca_9, .inl (cc_10, 20, .inl (fun _ => 0))), (q_11, .inr (6, [.int 4, .int 8, .ref ca_14, .int 0])), (ca_14, .inl (cc_15, 32, .inl (fun _ => 0)))] := hD
  refine lv_aload_n hx hb dX0_init_44 rfl (lv_at hl 0 rfl) ?_
  refine va_new (ci := 6) (fs := [.int 0, .int 0, .null, .int 0]) (C := RX6) (T := TX6) (N := 4) hx hb hts iw_i_bank_X6 tyX6 tyX6_ok hown (hts (.classLink RX0 9 RX6) (by decide +kernel)) (hts (.instantiable RX6 4) (by decide +kernel)) (hts (.initialized RX6) (by decide +kernel)) hK hP hD hS hA rfl (fun j hj => by rcases (show j = 0 ∨ j = 1 ∨ j = 2 ∨ j = 3 by omega) with rfl | rfl | rfl | rfl <;> rfl) (Nat.le_of_ble_eq_true rfl) (Nat.le_of_ble_eq_true rfl) dX0_init_45 (fun q_16 H hP hD hS => ?_)
  have hP : va_P (dC, dI) vwCl [(bo, .inr (0, [.ref q_1, .ref q_6, .ref q_11, .null, .null, .int 0])), (q_1, .inr (6, [.int 1, .int 5, .ref ca_4, .int 0])), (ca_4, .inl (cc_5, 5, .inl (fun _ => 0))), (q_6, .inr (6, [.int 4, .int 5, .ref ca_9, .int 0])), (ca_9, .inl (cc_10, 20, .inl (fun _ => 0))), (q_11, .inr (6, [.int 4, .int 8, .ref ca_14, .int 0])), (ca_14, .inl (cc_15, 32, .inl (fun _ => 0))), (q_16, .inr (6, [.int 0, .int 0, .null, .int 0]))] H := hP
  have hD : va_D A [(bo, .inr (0, [.ref q_1, .ref q_6, .ref q_11, .null, .null, .int 0])), (q_1, .inr (6, [.int 1, .int 5, .ref ca_4, .int 0])), (ca_4, .inl (cc_5, 5, .inl (fun _ => 0))), (q_6, .inr (6, [.int 4, .int 5, .ref ca_9, .int 0])), (ca_9, .inl (cc_10, 20, .inl (fun _ => 0))), (q_11, .inr (6, [.int 4, .int 8, .ref ca_14, .int 0])), (ca_14, .inl (cc_15, 32, .inl (fun _ => 0))), (q_16, .inr (6, [.int 0, .int 0, .null, .int 0]))] := hD
  refine W.widen (k := 7) (n := 73) (Nat.le_of_ble_eq_true rfl) (Nat.le_of_ble_eq_true rfl) ?_
  refine lv_dup hx hb dX0_init_48 rfl ?_
  refine lv_bipush (v := 6) hx hb dX0_init_49 (by decide) ?_
  refine lv_iconst (v := 4) hx hb dX0_init_51 (by decide) ?_
  have hPc := hP.sub (ws' := [(q_16, .inr (6, [.int 0, .int 0, .null, .int 0]))]) [7] rfl
  have hDc := hD.sub (ws' := [(q_16, .inr (6, [.int 0, .int 0, .null, .int 0]))]) [7] (by decide) rfl
  have hKc := hK.sub (tys' := []) [] rfl
  have hFc := va_free (wc := [(q_16, .inr (6, [.int 0, .int 0, .null, .int 0]))]) hD hS hA [7] rfl
  refine va_callv (va_runI (As := [.int 6, .int 4]) (rest := [.ref q_16, .ref bo]) ⟨hx, hb, hml, hown, hts⟩ (i_rows_24 l dC dI q_16 H.size) (cwI 2 hts gX0_init_X6_init rfl rfl rfl (hts (.initialized RX6) (by decide +kernel)) (hts (.methodLink RX0 11 yX6_init) (by decide +kernel)) (hts (.instanceMethod yX6_init) (by decide +kernel)) rfl (by decide +kernel) ⟨Nat.le_of_ble_eq_true rfl, Nat.le_of_ble_eq_true rfl⟩) ⟨fun a U g mk q => by obtain ⟨q0, q1, qP, qK, qD⟩ := q; exact ⟨q0, q1, qP, va_K.moved (u := U) (U := U.calling g mk a) (Vm.Alike.refl U.vm) qK, qD⟩, fun U hU hW => ⟨rfl, by rw [hU], by rw [hU]; exact hPc, va_K.moved hW.alike hKc, hDc.weaken (fun _ _ _ _ => trivial)⟩⟩ rfl rfl hl.1 rfl (lv_room (Nat.le_of_ble_eq_true rfl)) dX0_init_52 ⟨Nat.le_of_ble_eq_true rfl, Nat.le_of_ble_eq_true rfl⟩) hS (fun q _ h => hFc q h) hFc (fun u_ t H1 locs ht hvm hw_18 hB hz1 hk1 hS => ?_)
  obtain ⟨ca_19, cc_20, hP1, hK1, hD1⟩ := hB
  rw [ht] at hP1
  have hK1 := va_K.moved hvm.symm hK1
  obtain ⟨hP, hD⟩ := va_join (wr := [(bo, .inr (0, [.ref q_1, .ref q_6, .ref q_11, .null, .null, .int 0])), (q_1, .inr (6, [.int 1, .int 5, .ref ca_4, .int 0])), (ca_4, .inl (cc_5, 5, .inl (fun _ => 0))), (q_6, .inr (6, [.int 4, .int 5, .ref ca_9, .int 0])), (ca_9, .inl (cc_10, 20, .inl (fun _ => 0))), (q_11, .inr (6, [.int 4, .int 8, .ref ca_14, .int 0])), (ca_14, .inl (cc_15, 32, .inl (fun _ => 0)))]) (w1 := [(q_16, .inr (6, [.int 4, .int 6, .ref ca_19, .int 0])), (ca_19, .inl (cc_20, 24, .inl (fun _ => 0)))]) hP hD [7] [0, 1, 2, 3, 4, 5, 6] rfl rfl (by decide) (by decide) hk1 hFc hP1 hD1
  have hK := hK.app hK1
  have hK : va_K (dC, dI) vwCl [(cc_5, .int), (cc_10, .int), (cc_15, .int), (cc_20, .int)] s := hK
  generalize H1 = H at hP hS ⊢
  have hP : va_P (dC, dI) vwCl [(bo, .inr (0, [.ref q_1, .ref q_6, .ref q_11, .null, .null, .int 0])), (q_1, .inr (6, [.int 1, .int 5, .ref ca_4, .int 0])), (ca_4, .inl (cc_5, 5, .inl (fun _ => 0))), (q_6, .inr (6, [.int 4, .int 5, .ref ca_9, .int 0])), (ca_9, .inl (cc_10, 20, .inl (fun _ => 0))), (q_11, .inr (6, [.int 4, .int 8, .ref ca_14, .int 0])), (ca_14, .inl (cc_15, 32, .inl (fun _ => 0))), (q_16, .inr (6, [.int 4, .int 6, .ref ca_19, .int 0])), (ca_19, .inl (cc_20, 24, .inl (fun _ => 0)))] H := hP
  have hD : va_D A [(bo, .inr (0, [.ref q_1, .ref q_6, .ref q_11, .null, .null, .int 0])), (q_1, .inr (6, [.int 1, .int 5, .ref ca_4, .int 0])), (ca_4, .inl (cc_5, 5, .inl (fun _ => 0))), (q_6, .inr (6, [.int 4, .int 5, .ref ca_9, .int 0])), (ca_9, .inl (cc_10, 20, .inl (fun _ => 0))), (q_11, .inr (6, [.int 4, .int 8, .ref ca_14, .int 0])), (ca_14, .inl (cc_15, 32, .inl (fun _ => 0))), (q_16, .inr (6, [.int 4, .int 6, .ref ca_19, .int 0])), (ca_19, .inl (cc_20, 24, .inl (fun _ => 0)))] := hD
  refine W.widen (k := 8) (n := 97) (Nat.le_of_ble_eq_true rfl) (Nat.le_of_ble_eq_true rfl) ?_
  refine va_putF (D := (dC, dI)) (ci := 0) (v := .ref q_16) (ty := .object "ThriceCounted$Rows") (C := RX0) (T := TX0) (N := 6) hx hb hts iw_i_bank_X0 tyX0 tyX0_ok nmX0 hown hK hP hD hS 0 rfl rfl 3 (by decide) (hts (.fieldLink RX0 26 "ThriceCounted$Bank" "causes" "LThriceCounted$Rows;") (by decide +kernel)) (fun _ h9 => h9) rfl hin rfl (by decide +kernel) rfl rfl (Nat.le_of_ble_eq_true rfl) dX0_init_55 (fun H locs hP hD hS => ?_)
  have hP : va_P (dC, dI) vwCl [(bo, .inr (0, [.ref q_1, .ref q_6, .ref q_11, .ref q_16, .null, .int 0])), (q_1, .inr (6, [.int 1, .int 5, .ref ca_4, .int 0])), (ca_4, .inl (cc_5, 5, .inl (fun _ => 0))), (q_6, .inr (6, [.int 4, .int 5, .ref ca_9, .int 0])), (ca_9, .inl (cc_10, 20, .inl (fun _ => 0))), (q_11, .inr (6, [.int 4, .int 8, .ref ca_14, .int 0])), (ca_14, .inl (cc_15, 32, .inl (fun _ => 0))), (q_16, .inr (6, [.int 4, .int 6, .ref ca_19, .int 0])), (ca_19, .inl (cc_20, 24, .inl (fun _ => 0)))] H := hP
  have hD : va_D A [(bo, .inr (0, [.ref q_1, .ref q_6, .ref q_11, .ref q_16, .null, .int 0])), (q_1, .inr (6, [.int 1, .int 5, .ref ca_4, .int 0])), (ca_4, .inl (cc_5, 5, .inl (fun _ => 0))), (q_6, .inr (6, [.int 4, .int 5, .ref ca_9, .int 0])), (ca_9, .inl (cc_10, 20, .inl (fun _ => 0))), (q_11, .inr (6, [.int 4, .int 8, .ref ca_14, .int 0])), (ca_14, .inl (cc_15, 32, .inl (fun _ => 0))), (q_16, .inr (6, [.int 4, .int 6, .ref ca_19, .int 0])), (ca_19, .inl (cc_20, 24, .inl (fun _ => 0)))] := hD
  refine lv_aload_n hx hb dX0_init_58 rfl (lv_at hl 0 rfl) ?_
  refine lv_bipush (v := 8) hx hb dX0_init_59 (by decide) ?_
  refine va_newq (C := RX6) (N' := 8) hx hb hown (hts (.classLink RX0 9 RX6) (by decide +kernel)) (tz_over_X6 hN) hK hP hD hS hA (by decide) (by decide) (Nat.le_of_ble_eq_true rfl) (Nat.le_of_ble_eq_true rfl) (Nat.le_of_ble_eq_true rfl) dX0_init_61 (fun q_21 cA_22 H hK hP hD hS => ?_)
  have hK : va_K (dC, dI) vwCl [(cc_5, .int), (cc_10, .int), (cc_15, .int), (cc_20, .int), (cA_22, .object "ThriceCounted$Rows")] s := hK
  have hP : va_P (dC, dI) vwCl [(bo, .inr (0, [.ref q_1, .ref q_6, .ref q_11, .ref q_16, .null, .int 0])), (q_1, .inr (6, [.int 1, .int 5, .ref ca_4, .int 0])), (ca_4, .inl (cc_5, 5, .inl (fun _ => 0))), (q_6, .inr (6, [.int 4, .int 5, .ref ca_9, .int 0])), (ca_9, .inl (cc_10, 20, .inl (fun _ => 0))), (q_11, .inr (6, [.int 4, .int 8, .ref ca_14, .int 0])), (ca_14, .inl (cc_15, 32, .inl (fun _ => 0))), (q_16, .inr (6, [.int 4, .int 6, .ref ca_19, .int 0])), (ca_19, .inl (cc_20, 24, .inl (fun _ => 0))), (q_21, .inl (cA_22, 8, .inr (.inr (.inr (.inr (fun _ => none))))))] H := hP
  have hD : va_D A [(bo, .inr (0, [.ref q_1, .ref q_6, .ref q_11, .ref q_16, .null, .int 0])), (q_1, .inr (6, [.int 1, .int 5, .ref ca_4, .int 0])), (ca_4, .inl (cc_5, 5, .inl (fun _ => 0))), (q_6, .inr (6, [.int 4, .int 5, .ref ca_9, .int 0])), (ca_9, .inl (cc_10, 20, .inl (fun _ => 0))), (q_11, .inr (6, [.int 4, .int 8, .ref ca_14, .int 0])), (ca_14, .inl (cc_15, 32, .inl (fun _ => 0))), (q_16, .inr (6, [.int 4, .int 6, .ref ca_19, .int 0])), (ca_19, .inl (cc_20, 24, .inl (fun _ => 0))), (q_21, .inl (cA_22, 8, .inr (.inr (.inr (.inr (fun _ => none))))))] := hD
  refine W.widen (k := 9) (n := 105) (Nat.le_of_ble_eq_true rfl) (Nat.le_of_ble_eq_true rfl) ?_
  refine va_putF (D := (dC, dI)) (ci := 0) (v := .ref q_21) (ty := .array (.object "ThriceCounted$Rows")) (C := RX0) (T := TX0) (N := 6) hx hb hts iw_i_bank_X0 tyX0 tyX0_ok nmX0 hown hK hP hD hS 0 rfl rfl 4 (by decide) (hts (.fieldLink RX0 29 "ThriceCounted$Bank" "earlier" "[LThriceCounted$Rows;") (by decide +kernel)) (fun _ h9 => h9) rfl hin rfl (by decide +kernel) rfl rfl (Nat.le_of_ble_eq_true rfl) dX0_init_64 (fun H locs hP hD hS => ?_)
  have hP : va_P (dC, dI) vwCl [(bo, .inr (0, [.ref q_1, .ref q_6, .ref q_11, .ref q_16, .ref q_21, .int 0])), (q_1, .inr (6, [.int 1, .int 5, .ref ca_4, .int 0])), (ca_4, .inl (cc_5, 5, .inl (fun _ => 0))), (q_6, .inr (6, [.int 4, .int 5, .ref ca_9, .int 0])), (ca_9, .inl (cc_10, 20, .inl (fun _ => 0))), (q_11, .inr (6, [.int 4, .int 8, .ref ca_14, .int 0])), (ca_14, .inl (cc_15, 32, .inl (fun _ => 0))), (q_16, .inr (6, [.int 4, .int 6, .ref ca_19, .int 0])), (ca_19, .inl (cc_20, 24, .inl (fun _ => 0))), (q_21, .inl (cA_22, 8, .inr (.inr (.inr (.inr (fun _ => none))))))] H := hP
  have hD : va_D A [(bo, .inr (0, [.ref q_1, .ref q_6, .ref q_11, .ref q_16, .ref q_21, .int 0])), (q_1, .inr (6, [.int 1, .int 5, .ref ca_4, .int 0])), (ca_4, .inl (cc_5, 5, .inl (fun _ => 0))), (q_6, .inr (6, [.int 4, .int 5, .ref ca_9, .int 0])), (ca_9, .inl (cc_10, 20, .inl (fun _ => 0))), (q_11, .inr (6, [.int 4, .int 8, .ref ca_14, .int 0])), (ca_14, .inl (cc_15, 32, .inl (fun _ => 0))), (q_16, .inr (6, [.int 4, .int 6, .ref ca_19, .int 0])), (ca_19, .inl (cc_20, 24, .inl (fun _ => 0))), (q_21, .inl (cA_22, 8, .inr (.inr (.inr (.inr (fun _ => none))))))] := hD
  refine lv_aload_n hx hb dX0_init_67 rfl (lv_at hl 0 rfl) ?_
  refine lv_iconst (v := 0) hx hb dX0_init_68 (by decide) ?_
  refine va_put (D := (dC, dI)) (ci := 0) (v := .int 0) (ty := .int) (C := RX0) (T := TX0) (N := 6) hx hb hts iw_i_bank_X0 tyX0 tyX0_ok nmX0 hown hK hP hD hS 0 rfl rfl 5 (by decide) (hts (.fieldLink RX0 33 "ThriceCounted$Bank" "undos" "I") (by decide +kernel)) (fun _ h9 => h9) rfl (by decide +kernel) rfl rfl (Nat.le_of_ble_eq_true rfl) dX0_init_69 (fun H locs hP hD hS => ?_)
  have hP : va_P (dC, dI) vwCl [(bo, .inr (0, [.ref q_1, .ref q_6, .ref q_11, .ref q_16, .ref q_21, .int 0])), (q_1, .inr (6, [.int 1, .int 5, .ref ca_4, .int 0])), (ca_4, .inl (cc_5, 5, .inl (fun _ => 0))), (q_6, .inr (6, [.int 4, .int 5, .ref ca_9, .int 0])), (ca_9, .inl (cc_10, 20, .inl (fun _ => 0))), (q_11, .inr (6, [.int 4, .int 8, .ref ca_14, .int 0])), (ca_14, .inl (cc_15, 32, .inl (fun _ => 0))), (q_16, .inr (6, [.int 4, .int 6, .ref ca_19, .int 0])), (ca_19, .inl (cc_20, 24, .inl (fun _ => 0))), (q_21, .inl (cA_22, 8, .inr (.inr (.inr (.inr (fun _ => none))))))] H := hP
  have hD : va_D A [(bo, .inr (0, [.ref q_1, .ref q_6, .ref q_11, .ref q_16, .ref q_21, .int 0])), (q_1, .inr (6, [.int 1, .int 5, .ref ca_4, .int 0])), (ca_4, .inl (cc_5, 5, .inl (fun _ => 0))), (q_6, .inr (6, [.int 4, .int 5, .ref ca_9, .int 0])), (ca_9, .inl (cc_10, 20, .inl (fun _ => 0))), (q_11, .inr (6, [.int 4, .int 8, .ref ca_14, .int 0])), (ca_14, .inl (cc_15, 32, .inl (fun _ => 0))), (q_16, .inr (6, [.int 4, .int 6, .ref ca_19, .int 0])), (ca_19, .inl (cc_20, 24, .inl (fun _ => 0))), (q_21, .inl (cA_22, 8, .inr (.inr (.inr (.inr (fun _ => none))))))] := hD
  refine lv_iconst (v := 0) hx hb dX0_init_72 (by decide) ?_
  refine lv_istore_n (lv' := [(1, .int 0), (0, .ref bo)]) hx hb dX0_init_73 rfl hl (by decide) rfl (fun ls hl => ?_)
  refine lv_iload_n hx hb dX0_init_74 rfl (lv_at hl 0 rfl) ?_
  refine lv_aload_n hx hb dX0_init_75 rfl (lv_at hl 1 rfl) ?_
  refine va_get (D := (dC, dI)) (ci := 0) (v := .ref q_21) (C := RX0) (T := TX0) (N := 6) hx hb hts iw_i_bank_X0 hown hK hP 0 rfl rfl 4 (by decide) (hts (.fieldLink RX0 29 "ThriceCounted$Bank" "earlier" "[LThriceCounted$Rows;") (by decide +kernel)) (fun _ h9 => h9) rfl dX0_init_76 ?_
  refine va_alen (v := 8) hx hb hK hP 9 4 rfl rfl rfl dX0_init_79 ?_
  refine lv_icmp_ge (tgt := 105) hx hb dX0_init_80 (by decide) (fun c_23 => ?_) (fun c_23 => ?_)
  · exact absurd c_23 (by decide)
  · refine lv_aload_n hx hb dX0_init_83 rfl (lv_at hl 1 rfl) ?_
    refine va_get (D := (dC, dI)) (ci := 0) (v := .ref q_21) (C := RX0) (T := TX0) (N := 6) hx hb hts iw_i_bank_X0 hown hK hP 0 rfl rfl 4 (by decide) (hts (.fieldLink RX0 29 "ThriceCounted$Bank" "earlier" "[LThriceCounted$Rows;") (by decide +kernel)) (fun _ h9 => h9) rfl dX0_init_84 ?_
    refine lv_iload_n hx hb dX0_init_87 rfl (lv_at hl 0 rfl) ?_
    refine va_new (ci := 6) (fs := [.int 0, .int 0, .null, .int 0]) (C := RX6) (T := TX6) (N := 4) hx hb hts iw_i_bank_X6 tyX6 tyX6_ok hown (hts (.classLink RX0 9 RX6) (by decide +kernel)) (hts (.instantiable RX6 4) (by decide +kernel)) (hts (.initialized RX6) (by decide +kernel)) hK hP hD hS hA rfl (fun j hj => by rcases (show j = 0 ∨ j = 1 ∨ j = 2 ∨ j = 3 by omega) with rfl | rfl | rfl | rfl <;> rfl) (Nat.le_of_ble_eq_true rfl) (Nat.le_of_ble_eq_true rfl) dX0_init_88 (fun q_24 H hP hD hS => ?_)
    have hP : va_P (dC, dI) vwCl [(bo, .inr (0, [.ref q_1, .ref q_6, .ref q_11, .ref q_16, .ref q_21, .int 0])), (q_1, .inr (6, [.int 1, .int 5, .ref ca_4, .int 0])), (ca_4, .inl (cc_5, 5, .inl (fun _ => 0))), (q_6, .inr (6, [.int 4, .int 5, .ref ca_9, .int 0])), (ca_9, .inl (cc_10, 20, .inl (fun _ => 0))), (q_11, .inr (6, [.int 4, .int 8, .ref ca_14, .int 0])), (ca_14, .inl (cc_15, 32, .inl (fun _ => 0))), (q_16, .inr (6, [.int 4, .int 6, .ref ca_19, .int 0])), (ca_19, .inl (cc_20, 24, .inl (fun _ => 0))), (q_21, .inl (cA_22, 8, .inr (.inr (.inr (.inr (fun _ => none)))))), (q_24, .inr (6, [.int 0, .int 0, .null, .int 0]))] H := hP
    have hD : va_D A [(bo, .inr (0, [.ref q_1, .ref q_6, .ref q_11, .ref q_16, .ref q_21, .int 0])), (q_1, .inr (6, [.int 1, .int 5, .ref ca_4, .int 0])), (ca_4, .inl (cc_5, 5, .inl (fun _ => 0))), (q_6, .inr (6, [.int 4, .int 5, .ref ca_9, .int 0])), (ca_9, .inl (cc_10, 20, .inl (fun _ => 0))), (q_11, .inr (6, [.int 4, .int 8, .ref ca_14, .int 0])), (ca_14, .inl (cc_15, 32, .inl (fun _ => 0))), (q_16, .inr (6, [.int 4, .int 6, .ref ca_19, .int 0])), (ca_19, .inl (cc_20, 24, .inl (fun _ => 0))), (q_21, .inl (cA_22, 8, .inr (.inr (.inr (.inr (fun _ => none)))))), (q_24, .inr (6, [.int 0, .int 0, .null, .int 0]))] := hD
    refine W.widen (k := 10) (n := 109) (Nat.le_of_ble_eq_true rfl) (Nat.le_of_ble_eq_true rfl) ?_
    refine lv_dup hx hb dX0_init_91 rfl ?_
    refine lv_bipush (v := 8) hx hb dX0_init_92 (by decide) ?_
    refine lv_iconst (v := 4) hx hb dX0_init_94 (by decide) ?_
    have hPc := hP.sub (ws' := [(q_24, .inr (6, [.int 0, .int 0, .null, .int 0]))]) [10] rfl
    have hDc := hD.sub (ws' := [(q_24, .inr (6, [.int 0, .int 0, .null, .int 0]))]) [10] (by decide) rfl
    have hKc := hK.sub (tys' := []) [] rfl
    have hFc := va_free (wc := [(q_24, .inr (6, [.int 0, .int 0, .null, .int 0]))]) hD hS hA [10] rfl
    refine va_callv (va_runI (As := [.int 8, .int 4]) (rest := [.ref q_24, .int 0, .ref q_21]) ⟨hx, hb, hml, hown, hts⟩ (i_rows_32 l dC dI q_24 H.size) (cwI 2 hts gX0_init_X6_init rfl rfl rfl (hts (.initialized RX6) (by decide +kernel)) (hts (.methodLink RX0 11 yX6_init) (by decide +kernel)) (hts (.instanceMethod yX6_init) (by decide +kernel)) rfl (by decide +kernel) ⟨Nat.le_of_ble_eq_true rfl, Nat.le_of_ble_eq_true rfl⟩) ⟨fun a U g mk q => by obtain ⟨q0, q1, qP, qK, qD⟩ := q; exact ⟨q0, q1, qP, va_K.moved (u := U) (U := U.calling g mk a) (Vm.Alike.refl U.vm) qK, qD⟩, fun U hU hW => ⟨rfl, by rw [hU], by rw [hU]; exact hPc, va_K.moved hW.alike hKc, hDc.weaken (fun _ _ _ _ => trivial)⟩⟩ rfl rfl hl.1 rfl (lv_room (Nat.le_of_ble_eq_true rfl)) dX0_init_95 ⟨Nat.le_of_ble_eq_true rfl, Nat.le_of_ble_eq_true rfl⟩) hS (fun q _ h => hFc q h) hFc (fun u_ t H1 locs ht hvm hw_26 hB hz1 hk1 hS => ?_)
    obtain ⟨ca_27, cc_28, hP1, hK1, hD1⟩ := hB
    rw [ht] at hP1
    have hK1 := va_K.moved hvm.symm hK1
    obtain ⟨hP, hD⟩ := va_join (wr := [(bo, .inr (0, [.ref q_1, .ref q_6, .ref q_11, .ref q_16, .ref q_21, .int 0])), (q_1, .inr (6, [.int 1, .int 5, .ref ca_4, .int 0])), (ca_4, .inl (cc_5, 5, .inl (fun _ => 0))), (q_6, .inr (6, [.int 4, .int 5, .ref ca_9, .int 0])), (ca_9, .inl (cc_10, 20, .inl (fun _ => 0))), (q_11, .inr (6, [.int 4, .int 8, .ref ca_14, .int 0])), (ca_14, .inl (cc_15, 32, .inl (fun _ => 0))), (q_16, .inr (6, [.int 4, .int 6, .ref ca_19, .int 0])), (ca_19, .inl (cc_20, 24, .inl (fun _ => 0))), (q_21, .inl (cA_22, 8, .inr (.inr (.inr (.inr (fun _ => none))))))]) (w1 := [(q_24, .inr (6, [.int 4, .int 8, .ref ca_27, .int 0])), (ca_27, .inl (cc_28, 32, .inl (fun _ => 0)))]) hP hD [10] [0, 1, 2, 3, 4, 5, 6, 7, 8, 9] rfl rfl (by decide) (by decide) hk1 hFc hP1 hD1
    have hK := hK.app hK1
    have hK : va_K (dC, dI) vwCl [(cc_5, .int), (cc_10, .int), (cc_15, .int), (cc_20, .int), (cA_22, .object "ThriceCounted$Rows"), (cc_28, .int)] s := hK
    generalize H1 = H at hP hS ⊢
    have hP : va_P (dC, dI) vwCl [(bo, .inr (0, [.ref q_1, .ref q_6, .ref q_11, .ref q_16, .ref q_21, .int 0])), (q_1, .inr (6, [.int 1, .int 5, .ref ca_4, .int 0])), (ca_4, .inl (cc_5, 5, .inl (fun _ => 0))), (q_6, .inr (6, [.int 4, .int 5, .ref ca_9, .int 0])), (ca_9, .inl (cc_10, 20, .inl (fun _ => 0))), (q_11, .inr (6, [.int 4, .int 8, .ref ca_14, .int 0])), (ca_14, .inl (cc_15, 32, .inl (fun _ => 0))), (q_16, .inr (6, [.int 4, .int 6, .ref ca_19, .int 0])), (ca_19, .inl (cc_20, 24, .inl (fun _ => 0))), (q_21, .inl (cA_22, 8, .inr (.inr (.inr (.inr (fun _ => none)))))), (q_24, .inr (6, [.int 4, .int 8, .ref ca_27, .int 0])), (ca_27, .inl (cc_28, 32, .inl (fun _ => 0)))] H := hP
    have hD : va_D A [(bo, .inr (0, [.ref q_1, .ref q_6, .ref q_11, .ref q_16, .ref q_21, .int 0])), (q_1, .inr (6, [.int 1, .int 5, .ref ca_4, .int 0])), (ca_4, .inl (cc_5, 5, .inl (fun _ => 0))), (q_6, .inr (6, [.int 4, .int 5, .ref ca_9, .int 0])), (ca_9, .inl (cc_10, 20, .inl (fun _ => 0))), (q_11, .inr (6, [.int 4, .int 8, .ref ca_14, .int 0])), (ca_14, .inl (cc_15, 32, .inl (fun _ => 0))), (q_16, .inr (6, [.int 4, .int 6, .ref ca_19, .int 0])), (ca_19, .inl (cc_20, 24, .inl (fun _ => 0))), (q_21, .inl (cA_22, 8, .inr (.inr (.inr (.inr (fun _ => none)))))), (q_24, .inr (6, [.int 4, .int 8, .ref ca_27, .int 0])), (ca_27, .inl (cc_28, 32, .inl (fun _ => 0)))] := hD
    refine W.widen (k := 11) (n := 141) (Nat.le_of_ble_eq_true rfl) (Nat.le_of_ble_eq_true rfl) ?_
    refine va_astq hx hb hK hP hD hS 9 4 10 6 rfl rfl rfl rfl (show ¬ ((0 : Int32) < 0 ∨ 8 ≤ (0 : Int32).toNatClampNeg) by decide) dX0_init_98 (fun H locs hP hD hS => ?_)
    have hP : va_P (dC, dI) vwCl [(bo, .inr (0, [.ref q_1, .ref q_6, .ref q_11, .ref q_16, .ref q_21, .int 0])), (q_1, .inr (6, [.int 1, .int 5, .ref ca_4, .int 0])), (ca_4, .inl (cc_5, 5, .inl (fun _ => 0))), (q_6, .inr (6, [.int 4, .int 5, .ref ca_9, .int 0])), (ca_9, .inl (cc_10, 20, .inl (fun _ => 0))), (q_11, .inr (6, [.int 4, .int 8, .ref ca_14, .int 0])), (ca_14, .inl (cc_15, 32, .inl (fun _ => 0))), (q_16, .inr (6, [.int 4, .int 6, .ref ca_19, .int 0])), (ca_19, .inl (cc_20, 24, .inl (fun _ => 0))), (q_21, .inl (cA_22, 8, .inr (.inr (.inr (.inr (va_up (fun _ => none) 0 (some q_24))))))), (q_24, .inr (6, [.int 4, .int 8, .ref ca_27, .int 0])), (ca_27, .inl (cc_28, 32, .inl (fun _ => 0)))] H := hP
    have hD : va_D A [(bo, .inr (0, [.ref q_1, .ref q_6, .ref q_11, .ref q_16, .ref q_21, .int 0])), (q_1, .inr (6, [.int 1, .int 5, .ref ca_4, .int 0])), (ca_4, .inl (cc_5, 5, .inl (fun _ => 0))), (q_6, .inr (6, [.int 4, .int 5, .ref ca_9, .int 0])), (ca_9, .inl (cc_10, 20, .inl (fun _ => 0))), (q_11, .inr (6, [.int 4, .int 8, .ref ca_14, .int 0])), (ca_14, .inl (cc_15, 32, .inl (fun _ => 0))), (q_16, .inr (6, [.int 4, .int 6, .ref ca_19, .int 0])), (ca_19, .inl (cc_20, 24, .inl (fun _ => 0))), (q_21, .inl (cA_22, 8, .inr (.inr (.inr (.inr (va_up (fun _ => none) 0 (some q_24))))))), (q_24, .inr (6, [.int 4, .int 8, .ref ca_27, .int 0])), (ca_27, .inl (cc_28, 32, .inl (fun _ => 0)))] := hD
    refine lv_iinc (v := 1) (lv' := [(1, .int 1), (0, .ref bo)]) hx hb dX0_init_99 hl (k := 0) rfl (by decide) (by decide) rfl (fun ls hl => ?_)
    refine lv_goto (tgt := 74) hx hb dX0_init_102 (by decide) ?_
    refine lv_iload_n hx hb dX0_init_74 rfl (lv_at hl 0 rfl) ?_
    refine lv_aload_n hx hb dX0_init_75 rfl (lv_at hl 1 rfl) ?_
    refine va_get (D := (dC, dI)) (ci := 0) (v := .ref q_21) (C := RX0) (T := TX0) (N := 6) hx hb hts iw_i_bank_X0 hown hK hP 0 rfl rfl 4 (by decide) (hts (.fieldLink RX0 29 "ThriceCounted$Bank" "earlier" "[LThriceCounted$Rows;") (by decide +kernel)) (fun _ h9 => h9) rfl dX0_init_76 ?_
    refine va_alen (v := 8) hx hb hK hP 9 4 rfl rfl rfl dX0_init_79 ?_
    refine lv_icmp_ge (tgt := 105) hx hb dX0_init_80 (by decide) (fun c_29 => ?_) (fun c_29 => ?_)
    · exact absurd c_29 (by decide)
    · refine lv_aload_n hx hb dX0_init_83 rfl (lv_at hl 1 rfl) ?_
      refine va_get (D := (dC, dI)) (ci := 0) (v := .ref q_21) (C := RX0) (T := TX0) (N := 6) hx hb hts iw_i_bank_X0 hown hK hP 0 rfl rfl 4 (by decide) (hts (.fieldLink RX0 29 "ThriceCounted$Bank" "earlier" "[LThriceCounted$Rows;") (by decide +kernel)) (fun _ h9 => h9) rfl dX0_init_84 ?_
      refine lv_iload_n hx hb dX0_init_87 rfl (lv_at hl 0 rfl) ?_
      refine va_new (ci := 6) (fs := [.int 0, .int 0, .null, .int 0]) (C := RX6) (T := TX6) (N := 4) hx hb hts iw_i_bank_X6 tyX6 tyX6_ok hown (hts (.classLink RX0 9 RX6) (by decide +kernel)) (hts (.instantiable RX6 4) (by decide +kernel)) (hts (.initialized RX6) (by decide +kernel)) hK hP hD hS hA rfl (fun j hj => by rcases (show j = 0 ∨ j = 1 ∨ j = 2 ∨ j = 3 by omega) with rfl | rfl | rfl | rfl <;> rfl) (Nat.le_of_ble_eq_true rfl) (Nat.le_of_ble_eq_true rfl) dX0_init_88 (fun q_30 H hP hD hS => ?_)
      have hP : va_P (dC, dI) vwCl [(bo, .inr (0, [.ref q_1, .ref q_6, .ref q_11, .ref q_16, .ref q_21, .int 0])), (q_1, .inr (6, [.int 1, .int 5, .ref ca_4, .int 0])), (ca_4, .inl (cc_5, 5, .inl (fun _ => 0))), (q_6, .inr (6, [.int 4, .int 5, .ref ca_9, .int 0])), (ca_9, .inl (cc_10, 20, .inl (fun _ => 0))), (q_11, .inr (6, [.int 4, .int 8, .ref ca_14, .int 0])), (ca_14, .inl (cc_15, 32, .inl (fun _ => 0))), (q_16, .inr (6, [.int 4, .int 6, .ref ca_19, .int 0])), (ca_19, .inl (cc_20, 24, .inl (fun _ => 0))), (q_21, .inl (cA_22, 8, .inr (.inr (.inr (.inr (va_up (fun _ => none) 0 (some q_24))))))), (q_24, .inr (6, [.int 4, .int 8, .ref ca_27, .int 0])), (ca_27, .inl (cc_28, 32, .inl (fun _ => 0))), (q_30, .inr (6, [.int 0, .int 0, .null, .int 0]))] H := hP
      have hD : va_D A [(bo, .inr (0, [.ref q_1, .ref q_6, .ref q_11, .ref q_16, .ref q_21, .int 0])), (q_1, .inr (6, [.int 1, .int 5, .ref ca_4, .int 0])), (ca_4, .inl (cc_5, 5, .inl (fun _ => 0))), (q_6, .inr (6, [.int 4, .int 5, .ref ca_9, .int 0])), (ca_9, .inl (cc_10, 20, .inl (fun _ => 0))), (q_11, .inr (6, [.int 4, .int 8, .ref ca_14, .int 0])), (ca_14, .inl (cc_15, 32, .inl (fun _ => 0))), (q_16, .inr (6, [.int 4, .int 6, .ref ca_19, .int 0])), (ca_19, .inl (cc_20, 24, .inl (fun _ => 0))), (q_21, .inl (cA_22, 8, .inr (.inr (.inr (.inr (va_up (fun _ => none) 0 (some q_24))))))), (q_24, .inr (6, [.int 4, .int 8, .ref ca_27, .int 0])), (ca_27, .inl (cc_28, 32, .inl (fun _ => 0))), (q_30, .inr (6, [.int 0, .int 0, .null, .int 0]))] := hD
      refine W.widen (k := 12) (n := 145) (Nat.le_of_ble_eq_true rfl) (Nat.le_of_ble_eq_true rfl) ?_
      refine lv_dup hx hb dX0_init_91 rfl ?_
      refine lv_bipush (v := 8) hx hb dX0_init_92 (by decide) ?_
      refine lv_iconst (v := 4) hx hb dX0_init_94 (by decide) ?_
      have hPc := hP.sub (ws' := [(q_30, .inr (6, [.int 0, .int 0, .null, .int 0]))]) [12] rfl
      have hDc := hD.sub (ws' := [(q_30, .inr (6, [.int 0, .int 0, .null, .int 0]))]) [12] (by decide) rfl
      have hKc := hK.sub (tys' := []) [] rfl
      have hFc := va_free (wc := [(q_30, .inr (6, [.int 0, .int 0, .null, .int 0]))]) hD hS hA [12] rfl
      refine va_callv (va_runI (As := [.int 8, .int 4]) (rest := [.ref q_30, .int 1, .ref q_21]) ⟨hx, hb, hml, hown, hts⟩ (i_rows_32 l dC dI q_30 H.size) (cwI 2 hts gX0_init_X6_init rfl rfl rfl (hts (.initialized RX6) (by decide +kernel)) (hts (.methodLink RX0 11 yX6_init) (by decide +kernel)) (hts (.instanceMethod yX6_init) (by decide +kernel)) rfl (by decide +kernel) ⟨Nat.le_of_ble_eq_true rfl, Nat.le_of_ble_eq_true rfl⟩) ⟨fun a U g mk q => by obtain ⟨q0, q1, qP, qK, qD⟩ := q; exact ⟨q0, q1, qP, va_K.moved (u := U) (U := U.calling g mk a) (Vm.Alike.refl U.vm) qK, qD⟩, fun U hU hW => ⟨rfl, by rw [hU], by rw [hU]; exact hPc, va_K.moved hW.alike hKc, hDc.weaken (fun _ _ _ _ => trivial)⟩⟩ rfl rfl hl.1 rfl (lv_room (Nat.le_of_ble_eq_true rfl)) dX0_init_95 ⟨Nat.le_of_ble_eq_true rfl, Nat.le_of_ble_eq_true rfl⟩) hS (fun q _ h => hFc q h) hFc (fun u_ t H1 locs ht hvm hw_32 hB hz1 hk1 hS => ?_)
      obtain ⟨ca_33, cc_34, hP1, hK1, hD1⟩ := hB
      rw [ht] at hP1
      have hK1 := va_K.moved hvm.symm hK1
      obtain ⟨hP, hD⟩ := va_join (wr := [(bo, .inr (0, [.ref q_1, .ref q_6, .ref q_11, .ref q_16, .ref q_21, .int 0])), (q_1, .inr (6, [.int 1, .int 5, .ref ca_4, .int 0])), (ca_4, .inl (cc_5, 5, .inl (fun _ => 0))), (q_6, .inr (6, [.int 4, .int 5, .ref ca_9, .int 0])), (ca_9, .inl (cc_10, 20, .inl (fun _ => 0))), (q_11, .inr (6, [.int 4, .int 8, .ref ca_14, .int 0])), (ca_14, .inl (cc_15, 32, .inl (fun _ => 0))), (q_16, .inr (6, [.int 4, .int 6, .ref ca_19, .int 0])), (ca_19, .inl (cc_20, 24, .inl (fun _ => 0))), (q_21, .inl (cA_22, 8, .inr (.inr (.inr (.inr (va_up (fun _ => none) 0 (some q_24))))))), (q_24, .inr (6, [.int 4, .int 8, .ref ca_27, .int 0])), (ca_27, .inl (cc_28, 32, .inl (fun _ => 0)))]) (w1 := [(q_30, .inr (6, [.int 4, .int 8, .ref ca_33, .int 0])), (ca_33, .inl (cc_34, 32, .inl (fun _ => 0)))]) hP hD [12] [0, 1, 2, 3, 4, 5, 6, 7, 8, 9, 10, 11] rfl rfl (by decide) (by decide) hk1 hFc hP1 hD1
      have hK := hK.app hK1
      have hK : va_K (dC, dI) vwCl [(cc_5, .int), (cc_10, .int), (cc_15, .int), (cc_20, .int), (cA_22, .object "ThriceCounted$Rows"), (cc_28, .int), (cc_34, .int)] s := hK
      generalize H1 = H at hP hS ⊢
      have hP : va_P (dC, dI) vwCl [(bo, .inr (0, [.ref q_1, .ref q_6, .ref q_11, .ref q_16, .ref q_21, .int 0])), (q_1, .inr (6, [.int 1, .int 5, .ref ca_4, .int 0])), (ca_4, .inl (cc_5, 5, .inl (fun _ => 0))), (q_6, .inr (6, [.int 4, .int 5, .ref ca_9, .int 0])), (ca_9, .inl (cc_10, 20, .inl (fun _ => 0))), (q_11, .inr (6, [.int 4, .int 8, .ref ca_14, .int 0])), (ca_14, .inl (cc_15, 32, .inl (fun _ => 0))), (q_16, .inr (6, [.int 4, .int 6, .ref ca_19, .int 0])), (ca_19, .inl (cc_20, 24, .inl (fun _ => 0))), (q_21, .inl (cA_22, 8, .inr (.inr (.inr (.inr (va_up (fun _ => none) 0 (some q_24))))))), (q_24, .inr (6, [.int 4, .int 8, .ref ca_27, .int 0])), (ca_27, .inl (cc_28, 32, .inl (fun _ => 0))), (q_30, .inr (6, [.int 4, .int 8, .ref ca_33, .int 0])), (ca_33, .inl (cc_34, 32, .inl (fun _ => 0)))] H := hP
      have hD : va_D A [(bo, .inr (0, [.ref q_1, .ref q_6, .ref q_11, .ref q_16, .ref q_21, .int 0])), (q_1, .inr (6, [.int 1, .int 5, .ref ca_4, .int 0])), (ca_4, .inl (cc_5, 5, .inl (fun _ => 0))), (q_6, .inr (6, [.int 4, .int 5, .ref ca_9, .int 0])), (ca_9, .inl (cc_10, 20, .inl (fun _ => 0))), (q_11, .inr (6, [.int 4, .int 8, .ref ca_14, .int 0])), (ca_14, .inl (cc_15, 32, .inl (fun _ => 0))), (q_16, .inr (6, [.int 4, .int 6, .ref ca_19, .int 0])), (ca_19, .inl (cc_20, 24, .inl (fun _ => 0))), (q_21, .inl (cA_22, 8, .inr (.inr (.inr (.inr (va_up (fun _ => none) 0 (some q_24))))))), (q_24, .inr (6, [.int 4, .int 8, .ref ca_27, .int 0])), (ca_27, .inl (cc_28, 32, .inl (fun _ => 0))), (q_30, .inr (6, [.int 4, .int 8, .ref ca_33, .int 0])), (ca_33, .inl (cc_34, 32, .inl (fun _ => 0)))] := hD
      refine W.widen (k := 13) (n := 177) (Nat.le_of_ble_eq_true rfl) (Nat.le_of_ble_eq_true rfl) ?_
      refine va_astq hx hb hK hP hD hS 9 4 12 6 rfl rfl rfl rfl (show ¬ ((1 : Int32) < 0 ∨ 8 ≤ (1 : Int32).toNatClampNeg) by decide) dX0_init_98 (fun H locs hP hD hS => ?_)
      have hP : va_P (dC, dI) vwCl [(bo, .inr (0, [.ref q_1, .ref q_6, .ref q_11, .ref q_16, .ref q_21, .int 0])), (q_1, .inr (6, [.int 1, .int 5, .ref ca_4, .int 0])), (ca_4, .inl (cc_5, 5, .inl (fun _ => 0))), (q_6, .inr (6, [.int 4, .int 5, .ref ca_9, .int 0])), (ca_9, .inl (cc_10, 20, .inl (fun _ => 0))), (q_11, .inr (6, [.int 4, .int 8, .ref ca_14, .int 0])), (ca_14, .inl (cc_15, 32, .inl (fun _ => 0))), (q_16, .inr (6, [.int 4, .int 6, .ref ca_19, .int 0])), (ca_19, .inl (cc_20, 24, .inl (fun _ => 0))), (q_21, .inl (cA_22, 8, .inr (.inr (.inr (.inr (va_up (va_up (fun _ => none) 0 (some q_24)) 1 (some q_30))))))), (q_24, .inr (6, [.int 4, .int 8, .ref ca_27, .int 0])), (ca_27, .inl (cc_28, 32, .inl (fun _ => 0))), (q_30, .inr (6, [.int 4, .int 8, .ref ca_33, .int 0])), (ca_33, .inl (cc_34, 32, .inl (fun _ => 0)))] H := hP
      have hD : va_D A [(bo, .inr (0, [.ref q_1, .ref q_6, .ref q_11, .ref q_16, .ref q_21, .int 0])), (q_1, .inr (6, [.int 1, .int 5, .ref ca_4, .int 0])), (ca_4, .inl (cc_5, 5, .inl (fun _ => 0))), (q_6, .inr (6, [.int 4, .int 5, .ref ca_9, .int 0])), (ca_9, .inl (cc_10, 20, .inl (fun _ => 0))), (q_11, .inr (6, [.int 4, .int 8, .ref ca_14, .int 0])), (ca_14, .inl (cc_15, 32, .inl (fun _ => 0))), (q_16, .inr (6, [.int 4, .int 6, .ref ca_19, .int 0])), (ca_19, .inl (cc_20, 24, .inl (fun _ => 0))), (q_21, .inl (cA_22, 8, .inr (.inr (.inr (.inr (va_up (va_up (fun _ => none) 0 (some q_24)) 1 (some q_30))))))), (q_24, .inr (6, [.int 4, .int 8, .ref ca_27, .int 0])), (ca_27, .inl (cc_28, 32, .inl (fun _ => 0))), (q_30, .inr (6, [.int 4, .int 8, .ref ca_33, .int 0])), (ca_33, .inl (cc_34, 32, .inl (fun _ => 0)))] := hD
      refine lv_iinc (v := 2) (lv' := [(1, .int 2), (0, .ref bo)]) hx hb dX0_init_99 hl (k := 0) rfl (by decide) (by decide) rfl (fun ls hl => ?_)
      refine lv_goto (tgt := 74) hx hb dX0_init_102 (by decide) ?_
      refine lv_iload_n hx hb dX0_init_74 rfl (lv_at hl 0 rfl) ?_
      refine lv_aload_n hx hb dX0_init_75 rfl (lv_at hl 1 rfl) ?_
      refine va_get (D := (dC, dI)) (ci := 0) (v := .ref q_21) (C := RX0) (T := TX0) (N := 6) hx hb hts iw_i_bank_X0 hown hK hP 0 rfl rfl 4 (by decide) (hts (.fieldLink RX0 29 "ThriceCounted$Bank" "earlier" "[LThriceCounted$Rows;") (by decide +kernel)) (fun _ h9 => h9) rfl dX0_init_76 ?_
      refine va_alen (v := 8) hx hb hK hP 9 4 rfl rfl rfl dX0_init_79 ?_
      refine lv_icmp_ge (tgt := 105) hx hb dX0_init_80 (by decide) (fun c_35 => ?_) (fun c_35 => ?_)
      · exact absurd c_35 (by decide)
      · refine lv_aload_n hx hb dX0_init_83 rfl (lv_at hl 1 rfl) ?_
        refine va_get (D := (dC, dI)) (ci := 0) (v := .ref q_21) (C := RX0) (T := TX0) (N := 6) hx hb hts iw_i_bank_X0 hown hK hP 0 rfl rfl 4 (by decide) (hts (.fieldLink RX0 29 "ThriceCounted$Bank" "earlier" "[LThriceCounted$Rows;") (by decide +kernel)) (fun _ h9 => h9) rfl dX0_init_84 ?_
        refine lv_iload_n hx hb dX0_init_87 rfl (lv_at hl 0 rfl) ?_
        refine va_new (ci := 6) (fs := [.int 0, .int 0, .null, .int 0]) (C := RX6) (T := TX6) (N := 4) hx hb hts iw_i_bank_X6 tyX6 tyX6_ok hown (hts (.classLink RX0 9 RX6) (by decide +kernel)) (hts (.instantiable RX6 4) (by decide +kernel)) (hts (.initialized RX6) (by decide +kernel)) hK hP hD hS hA rfl (fun j hj => by rcases (show j = 0 ∨ j = 1 ∨ j = 2 ∨ j = 3 by omega) with rfl | rfl | rfl | rfl <;> rfl) (Nat.le_of_ble_eq_true rfl) (Nat.le_of_ble_eq_true rfl) dX0_init_88 (fun q_36 H hP hD hS => ?_)
        have hP : va_P (dC, dI) vwCl [(bo, .inr (0, [.ref q_1, .ref q_6, .ref q_11, .ref q_16, .ref q_21, .int 0])), (q_1, .inr (6, [.int 1, .int 5, .ref ca_4, .int 0])), (ca_4, .inl (cc_5, 5, .inl (fun _ => 0))), (q_6, .inr (6, [.int 4, .int 5, .ref ca_9, .int 0])), (ca_9, .inl (cc_10, 20, .inl (fun _ => 0))), (q_11, .inr (6, [.int 4, .int 8, .ref ca_14, .int 0])), (ca_14, .inl (cc_15, 32, .inl (fun _ => 0))), (q_16, .inr (6, [.int 4, .int 6, .ref ca_19, .int 0])), (ca_19, .inl (cc_20, 24, .inl (fun _ => 0))), (q_21, .inl (cA_22, 8, .inr (.inr (.inr (.inr (va_up (va_up (fun _ => none) 0 (some q_24)) 1 (some q_30))))))), (q_24, .inr (6, [.int 4, .int 8, .ref ca_27, .int 0])), (ca_27, .inl (cc_28, 32, .inl (fun _ => 0))), (q_30, .inr (6, [.int 4, .int 8, .ref ca_33, .int 0])), (ca_33, .inl (cc_34, 32, .inl (fun _ => 0))), (q_36, .inr (6, [.int 0, .int 0, .null, .int 0]))] H := hP
        have hD : va_D A [(bo, .inr (0, [.ref q_1, .ref q_6, .ref q_11, .ref q_16, .ref q_21, .int 0])), (q_1, .inr (6, [.int 1, .int 5, .ref ca_4, .int 0])), (ca_4, .inl (cc_5, 5, .inl (fun _ => 0))), (q_6, .inr (6, [.int 4, .int 5, .ref ca_9, .int 0])), (ca_9, .inl (cc_10, 20, .inl (fun _ => 0))), (q_11, .inr (6, [.int 4, .int 8, .ref ca_14, .int 0])), (ca_14, .inl (cc_15, 32, .inl (fun _ => 0))), (q_16, .inr (6, [.int 4, .int 6, .ref ca_19, .int 0])), (ca_19, .inl (cc_20, 24, .inl (fun _ => 0))), (q_21, .inl (cA_22, 8, .inr (.inr (.inr (.inr (va_up (va_up (fun _ => none) 0 (some q_24)) 1 (some q_30))))))), (q_24, .inr (6, [.int 4, .int 8, .ref ca_27, .int 0])), (ca_27, .inl (cc_28, 32, .inl (fun _ => 0))), (q_30, .inr (6, [.int 4, .int 8, .ref ca_33, .int 0])), (ca_33, .inl (cc_34, 32, .inl (fun _ => 0))), (q_36, .inr (6, [.int 0, .int 0, .null, .int 0]))] := hD
        refine W.widen (k := 14) (n := 181) (Nat.le_of_ble_eq_true rfl) (Nat.le_of_ble_eq_true rfl) ?_
        refine lv_dup hx hb dX0_init_91 rfl ?_
        refine lv_bipush (v := 8) hx hb dX0_init_92 (by decide) ?_
        refine lv_iconst (v := 4) hx hb dX0_init_94 (by decide) ?_
        have hPc := hP.sub (ws' := [(q_36, .inr (6, [.int 0, .int 0, .null, .int 0]))]) [14] rfl
        have hDc := hD.sub (ws' := [(q_36, .inr (6, [.int 0, .int 0, .null, .int 0]))]) [14] (by decide) rfl
        have hKc := hK.sub (tys' := []) [] rfl
        have hFc := va_free (wc := [(q_36, .inr (6, [.int 0, .int 0, .null, .int 0]))]) hD hS hA [14] rfl
        refine va_callv (va_runI (As := [.int 8, .int 4]) (rest := [.ref q_36, .int 2, .ref q_21]) ⟨hx, hb, hml, hown, hts⟩ (i_rows_32 l dC dI q_36 H.size) (cwI 2 hts gX0_init_X6_init rfl rfl rfl (hts (.initialized RX6) (by decide +kernel)) (hts (.methodLink RX0 11 yX6_init) (by decide +kernel)) (hts (.instanceMethod yX6_init) (by decide +kernel)) rfl (by decide +kernel) ⟨Nat.le_of_ble_eq_true rfl, Nat.le_of_ble_eq_true rfl⟩) ⟨fun a U g mk q => by obtain ⟨q0, q1, qP, qK, qD⟩ := q; exact ⟨q0, q1, qP, va_K.moved (u := U) (U := U.calling g mk a) (Vm.Alike.refl U.vm) qK, qD⟩, fun U hU hW => ⟨rfl, by rw [hU], by rw [hU]; exact hPc, va_K.moved hW.alike hKc, hDc.weaken (fun _ _ _ _ => trivial)⟩⟩ rfl rfl hl.1 rfl (lv_room (Nat.le_of_ble_eq_true rfl)) dX0_init_95 ⟨Nat.le_of_ble_eq_true rfl, Nat.le_of_ble_eq_true rfl⟩) hS (fun q _ h => hFc q h) hFc (fun u_ t H1 locs ht hvm hw_38 hB hz1 hk1 hS => ?_)
        obtain ⟨ca_39, cc_40, hP1, hK1, hD1⟩ := hB
        rw [ht] at hP1
        have hK1 := va_K.moved hvm.symm hK1
        obtain ⟨hP, hD⟩ := va_join (wr := [(bo, .inr (0, [.ref q_1, .ref q_6, .ref q_11, .ref q_16, .ref q_21, .int 0])), (q_1, .inr (6, [.int 1, .int 5, .ref ca_4, .int 0])), (ca_4, .inl (cc_5, 5, .inl (fun _ => 0))), (q_6, .inr (6, [.int 4, .int 5, .ref ca_9, .int 0])), (ca_9, .inl (cc_10, 20, .inl (fun _ => 0))), (q_11, .inr (6, [.int 4, .int 8, .ref ca_14, .int 0])), (ca_14, .inl (cc_15, 32, .inl (fun _ => 0))), (q_16, .inr (6, [.int 4, .int 6, .ref ca_19, .int 0])), (ca_19, .inl (cc_20, 24, .inl (fun _ => 0))), (q_21, .inl (cA_22, 8, .inr (.inr (.inr (.inr (va_up (va_up (fun _ => none) 0 (some q_24)) 1 (some q_30))))))), (q_24, .inr (6, [.int 4, .int 8, .ref ca_27, .int 0])), (ca_27, .inl (cc_28, 32, .inl (fun _ => 0))), (q_30, .inr (6, [.int 4, .int 8, .ref ca_33, .int 0])), (ca_33, .inl (cc_34, 32, .inl (fun _ => 0)))]) (w1 := [(q_36, .inr (6, [.int 4, .int 8, .ref ca_39, .int 0])), (ca_39, .inl (cc_40, 32, .inl (fun _ => 0)))]) hP hD [14] [0, 1, 2, 3, 4, 5, 6, 7, 8, 9, 10, 11, 12, 13] rfl rfl (by decide) (by decide) hk1 hFc hP1 hD1
        have hK := hK.app hK1
        have hK : va_K (dC, dI) vwCl [(cc_5, .int), (cc_10, .int), (cc_15, .int), (cc_20, .int), (cA_22, .object "ThriceCounted$Rows"), (cc_28, .int), (cc_34, .int), (cc_40, .int)] s := hK
        generalize H1 = H at hP hS ⊢
        have hP : va_P (dC, dI) vwCl [(bo, .inr (0, [.ref q_1, .ref q_6, .ref q_11, .ref q_16, .ref q_21, .int 0])), (q_1, .inr (6, [.int 1, .int 5, .ref ca_4, .int 0])), (ca_4, .inl (cc_5, 5, .inl (fun _ => 0))), (q_6, .inr (6, [.int 4, .int 5, .ref ca_9, .int 0])), (ca_9, .inl (cc_10, 20, .inl (fun _ => 0))), (q_11, .inr (6, [.int 4, .int 8, .ref ca_14, .int 0])), (ca_14, .inl (cc_15, 32, .inl (fun _ => 0))), (q_16, .inr (6, [.int 4, .int 6, .ref ca_19, .int 0])), (ca_19, .inl (cc_20, 24, .inl (fun _ => 0))), (q_21, .inl (cA_22, 8, .inr (.inr (.inr (.inr (va_up (va_up (fun _ => none) 0 (some q_24)) 1 (some q_30))))))), (q_24, .inr (6, [.int 4, .int 8, .ref ca_27, .int 0])), (ca_27, .inl (cc_28, 32, .inl (fun _ => 0))), (q_30, .inr (6, [.int 4, .int 8, .ref ca_33, .int 0])), (ca_33, .inl (cc_34, 32, .inl (fun _ => 0))), (q_36, .inr (6, [.int 4, .int 8, .ref ca_39, .int 0])), (ca_39, .inl (cc_40, 32, .inl (fun _ => 0)))] H := hP
        have hD : va_D A [(bo, .inr (0, [.ref q_1, .ref q_6, .ref q_11, .ref q_16, .ref q_21, .int 0])), (q_1, .inr (6, [.int 1, .int 5, .ref ca_4, .int 0])), (ca_4, .inl (cc_5, 5, .inl (fun _ => 0))), (q_6, .inr (6, [.int 4, .int 5, .ref ca_9, .int 0])), (ca_9, .inl (cc_10, 20, .inl (fun _ => 0))), (q_11, .inr (6, [.int 4, .int 8, .ref ca_14, .int 0])), (ca_14, .inl (cc_15, 32, .inl (fun _ => 0))), (q_16, .inr (6, [.int 4, .int 6, .ref ca_19, .int 0])), (ca_19, .inl (cc_20, 24, .inl (fun _ => 0))), (q_21, .inl (cA_22, 8, .inr (.inr (.inr (.inr (va_up (va_up (fun _ => none) 0 (some q_24)) 1 (some q_30))))))), (q_24, .inr (6, [.int 4, .int 8, .ref ca_27, .int 0])), (ca_27, .inl (cc_28, 32, .inl (fun _ => 0))), (q_30, .inr (6, [.int 4, .int 8, .ref ca_33, .int 0])), (ca_33, .inl (cc_34, 32, .inl (fun _ => 0))), (q_36, .inr (6, [.int 4, .int 8, .ref ca_39, .int 0])), (ca_39, .inl (cc_40, 32, .inl (fun _ => 0)))] := hD
        refine W.widen (k := 15) (n := 213) (Nat.le_of_ble_eq_true rfl) (Nat.le_of_ble_eq_true rfl) ?_
        refine va_astq hx hb hK hP hD hS 9 4 14 6 rfl rfl rfl rfl (show ¬ ((2 : Int32) < 0 ∨ 8 ≤ (2 : Int32).toNatClampNeg) by decide) dX0_init_98 (fun H locs hP hD hS => ?_)
        have hP : va_P (dC, dI) vwCl [(bo, .inr (0, [.ref q_1, .ref q_6, .ref q_11, .ref q_16, .ref q_21, .int 0])), (q_1, .inr (6, [.int 1, .int 5, .ref ca_4, .int 0])), (ca_4, .inl (cc_5, 5, .inl (fun _ => 0))), (q_6, .inr (6, [.int 4, .int 5, .ref ca_9, .int 0])), (ca_9, .inl (cc_10, 20, .inl (fun _ => 0))), (q_11, .inr (6, [.int 4, .int 8, .ref ca_14, .int 0])), (ca_14, .inl (cc_15, 32, .inl (fun _ => 0))), (q_16, .inr (6, [.int 4, .int 6, .ref ca_19, .int 0])), (ca_19, .inl (cc_20, 24, .inl (fun _ => 0))), (q_21, .inl (cA_22, 8, .inr (.inr (.inr (.inr (va_up (va_up (va_up (fun _ => none) 0 (some q_24)) 1 (some q_30)) 2 (some q_36))))))), (q_24, .inr (6, [.int 4, .int 8, .ref ca_27, .int 0])), (ca_27, .inl (cc_28, 32, .inl (fun _ => 0))), (q_30, .inr (6, [.int 4, .int 8, .ref ca_33, .int 0])), (ca_33, .inl (cc_34, 32, .inl (fun _ => 0))), (q_36, .inr (6, [.int 4, .int 8, .ref ca_39, .int 0])), (ca_39, .inl (cc_40, 32, .inl (fun _ => 0)))] H := hP
        have hD : va_D A [(bo, .inr (0, [.ref q_1, .ref q_6, .ref q_11, .ref q_16, .ref q_21, .int 0])), (q_1, .inr (6, [.int 1, .int 5, .ref ca_4, .int 0])), (ca_4, .inl (cc_5, 5, .inl (fun _ => 0))), (q_6, .inr (6, [.int 4, .int 5, .ref ca_9, .int 0])), (ca_9, .inl (cc_10, 20, .inl (fun _ => 0))), (q_11, .inr (6, [.int 4, .int 8, .ref ca_14, .int 0])), (ca_14, .inl (cc_15, 32, .inl (fun _ => 0))), (q_16, .inr (6, [.int 4, .int 6, .ref ca_19, .int 0])), (ca_19, .inl (cc_20, 24, .inl (fun _ => 0))), (q_21, .inl (cA_22, 8, .inr (.inr (.inr (.inr (va_up (va_up (va_up (fun _ => none) 0 (some q_24)) 1 (some q_30)) 2 (some q_36))))))), (q_24, .inr (6, [.int 4, .int 8, .ref ca_27, .int 0])), (ca_27, .inl (cc_28, 32, .inl (fun _ => 0))), (q_30, .inr (6, [.int 4, .int 8, .ref ca_33, .int 0])), (ca_33, .inl (cc_34, 32, .inl (fun _ => 0))), (q_36, .inr (6, [.int 4, .int 8, .ref ca_39, .int 0])), (ca_39, .inl (cc_40, 32, .inl (fun _ => 0)))] := hD
        refine lv_iinc (v := 3) (lv' := [(1, .int 3), (0, .ref bo)]) hx hb dX0_init_99 hl (k := 0) rfl (by decide) (by decide) rfl (fun ls hl => ?_)
        refine lv_goto (tgt := 74) hx hb dX0_init_102 (by decide) ?_
        refine lv_iload_n hx hb dX0_init_74 rfl (lv_at hl 0 rfl) ?_
        refine lv_aload_n hx hb dX0_init_75 rfl (lv_at hl 1 rfl) ?_
        refine va_get (D := (dC, dI)) (ci := 0) (v := .ref q_21) (C := RX0) (T := TX0) (N := 6) hx hb hts iw_i_bank_X0 hown hK hP 0 rfl rfl 4 (by decide) (hts (.fieldLink RX0 29 "ThriceCounted$Bank" "earlier" "[LThriceCounted$Rows;") (by decide +kernel)) (fun _ h9 => h9) rfl dX0_init_76 ?_
        refine va_alen (v := 8) hx hb hK hP 9 4 rfl rfl rfl dX0_init_79 ?_
        refine lv_icmp_ge (tgt := 105) hx hb dX0_init_80 (by decide) (fun c_41 => ?_) (fun c_41 => ?_)
        · exact absurd c_41 (by decide)
        · refine lv_aload_n hx hb dX0_init_83 rfl (lv_at hl 1 rfl) ?_
          refine va_get (D := (dC, dI)) (ci := 0) (v := .ref q_21) (C := RX0) (T := TX0) (N := 6) hx hb hts iw_i_bank_X0 hown hK hP 0 rfl rfl 4 (by decide) (hts (.fieldLink RX0 29 "ThriceCounted$Bank" "earlier" "[LThriceCounted$Rows;") (by decide +kernel)) (fun _ h9 => h9) rfl dX0_init_84 ?_
          refine lv_iload_n hx hb dX0_init_87 rfl (lv_at hl 0 rfl) ?_
          refine va_new (ci := 6) (fs := [.int 0, .int 0, .null, .int 0]) (C := RX6) (T := TX6) (N := 4) hx hb hts iw_i_bank_X6 tyX6 tyX6_ok hown (hts (.classLink RX0 9 RX6) (by decide +kernel)) (hts (.instantiable RX6 4) (by decide +kernel)) (hts (.initialized RX6) (by decide +kernel)) hK hP hD hS hA rfl (fun j hj => by rcases (show j = 0 ∨ j = 1 ∨ j = 2 ∨ j = 3 by omega) with rfl | rfl | rfl | rfl <;> rfl) (Nat.le_of_ble_eq_true rfl) (Nat.le_of_ble_eq_true rfl) dX0_init_88 (fun q_42 H hP hD hS => ?_)
          have hP : va_P (dC, dI) vwCl [(bo, .inr (0, [.ref q_1, .ref q_6, .ref q_11, .ref q_16, .ref q_21, .int 0])), (q_1, .inr (6, [.int 1, .int 5, .ref ca_4, .int 0])), (ca_4, .inl (cc_5, 5, .inl (fun _ => 0))), (q_6, .inr (6, [.int 4, .int 5, .ref ca_9, .int 0])), (ca_9, .inl (cc_10, 20, .inl (fun _ => 0))), (q_11, .inr (6, [.int 4, .int 8, .ref ca_14, .int 0])), (ca_14, .inl (cc_15, 32, .inl (fun _ => 0))), (q_16, .inr (6, [.int 4, .int 6, .ref ca_19, .int 0])), (ca_19, .inl (cc_20, 24, .inl (fun _ => 0))), (q_21, .inl (cA_22, 8, .inr (.inr (.inr (.inr (va_up (va_up (va_up (fun _ => none) 0 (some q_24)) 1 (some q_30)) 2 (some q_36))))))), (q_24, .inr (6, [.int 4, .int 8, .ref ca_27, .int 0])), (ca_27, .inl (cc_28, 32, .inl (fun _ => 0))), (q_30, .inr (6, [.int 4, .int 8, .ref ca_33, .int 0])), (ca_33, .inl (cc_34, 32, .inl (fun _ => 0))), (q_36, .inr (6, [.int 4, .int 8, .ref ca_39, .int 0])), (ca_39, .inl (cc_40, 32, .inl (fun _ => 0))), (q_42, .inr (6, [.int 0, .int 0, .null, .int 0]))] H := hP
          have hD : va_D A [(bo, .inr (0, [.ref q_1, .ref q_6, .ref q_11, .ref q_16, .ref q_21, .int 0])), (q_1, .inr (6, [.int 1, .int 5, .ref ca_4, .int 0])), (ca_4, .inl (cc_5, 5, .inl (fun _ => 0))), (q_6, .inr (6, [.int 4, .int 5, .ref ca_9, .int 0])), (ca_9, .inl (cc_10, 20, .inl (fun _ => 0))), (q_11, .inr (6, [.int 4, .int 8, .ref ca_14, .int 0])), (ca_14, .inl (cc_15, 32, .inl (fun _ => 0))), (q_16, .inr (6, [.int 4, .int 6, .ref ca_19, .int 0])), (ca_19, .inl (cc_20, 24, .inl (fun _ => 0))), (q_21, .inl (cA_22, 8, .inr (.inr (.inr (.inr (va_up (va_up (va_up (fun _ => none) 0 (some q_24)) 1 (some q_30)) 2 (some q_36))))))), (q_24, .inr (6, [.int 4, .int 8, .ref ca_27, .int 0])), (ca_27, .inl (cc_28, 32, .inl (fun _ => 0))), (q_30, .inr (6, [.int 4, .int 8, .ref ca_33, .int 0])), (ca_33, .inl (cc_34, 32, .inl (fun _ => 0))), (q_36, .inr (6, [.int 4, .int 8, .ref ca_39, .int 0])), (ca_39, .inl (cc_40, 32, .inl (fun _ => 0))), (q_42, .inr (6, [.int 0, .int 0, .null, .int 0]))] := hD
          refine W.widen (k := 16) (n := 217) (Nat.le_of_ble_eq_true rfl) (Nat.le_of_ble_eq_true rfl) ?_
          refine lv_dup hx hb dX0_init_91 rfl ?_
          refine lv_bipush (v := 8) hx hb dX0_init_92 (by decide) ?_
          refine lv_iconst (v := 4) hx hb dX0_init_94 (by decide) ?_
          have hPc := hP.sub (ws' := [(q_42, .inr (6, [.int 0, .int 0, .null, .int 0]))]) [16] rfl
          have hDc := hD.sub (ws' := [(q_42, .inr (6, [.int 0, .int 0, .null, .int 0]))]) [16] (by decide) rfl
          have hKc := hK.sub (tys' := []) [] rfl
          have hFc := va_free (wc := [(q_42, .inr (6, [.int 0, .int 0, .null, .int 0]))]) hD hS hA [16] rfl
          refine va_callv (va_runI (As := [.int 8, .int 4]) (rest := [.ref q_42, .int 3, .ref q_21]) ⟨hx, hb, hml, hown, hts⟩ (i_rows_32 l dC dI q_42 H.size) (cwI 2 hts gX0_init_X6_init rfl rfl rfl (hts (.initialized RX6) (by decide +kernel)) (hts (.methodLink RX0 11 yX6_init) (by decide +kernel)) (hts (.instanceMethod yX6_init) (by decide +kernel)) rfl (by decide +kernel) ⟨Nat.le_of_ble_eq_true rfl, Nat.le_of_ble_eq_true rfl⟩) ⟨fun a U g mk q => by obtain ⟨q0, q1, qP, qK, qD⟩ := q; exact ⟨q0, q1, qP, va_K.moved (u := U) (U := U.calling g mk a) (Vm.Alike.refl U.vm) qK, qD⟩, fun U hU hW => ⟨rfl, by rw [hU], by rw [hU]; exact hPc, va_K.moved hW.alike hKc, hDc.weaken (fun _ _ _ _ => trivial)⟩⟩ rfl rfl hl.1 rfl (lv_room (Nat.le_of_ble_eq_true rfl)) dX0_init_95 ⟨Nat.le_of_ble_eq_true rfl, Nat.le_of_ble_eq_true rfl⟩) hS (fun q _ h => hFc q h) hFc (fun u_ t H1 locs ht hvm hw_44 hB hz1 hk1 hS => ?_)
          obtain ⟨ca_45, cc_46, hP1, hK1, hD1⟩ := hB
          rw [ht] at hP1
          have hK1 := va_K.moved hvm.symm hK1
          obtain ⟨hP, hD⟩ := va_join (wr := [(bo, .inr (0, [.ref q_1, .ref q_6, .ref q_11, .ref q_16, .ref q_21, .int 0])), (q_1, .inr (6, [.int 1, .int 5, .ref ca_4, .int 0])), (ca_4, .inl (cc_5, 5, .inl (fun _ => 0))), (q_6, .inr (6, [.int 4, .int 5, .ref ca_9, .int 0])), (ca_9, .inl (cc_10, 20, .inl (fun _ => 0))), (q_11, .inr (6, [.int 4, .int 8, .ref ca_14, .int 0])), (ca_14, .inl (cc_15, 32, .inl (fun _ => 0))), (q_16, .inr (6, [.int 4, .int 6, .ref ca_19, .int 0])), (ca_19, .inl (cc_20, 24, .inl (fun _ => 0))), (q_21, .inl (cA_22, 8, .inr (.inr (.inr (.inr (va_up (va_up (va_up (fun _ => none) 0 (some q_24)) 1 (some q_30)) 2 (some q_36))))))), (q_24, .inr (6, [.int 4, .int 8, .ref ca_27, .int 0])), (ca_27, .inl (cc_28, 32, .inl (fun _ => 0))), (q_30, .inr (6, [.int 4, .int 8, .ref ca_33, .int 0])), (ca_33, .inl (cc_34, 32, .inl (fun _ => 0))), (q_36, .inr (6, [.int 4, .int 8, .ref ca_39, .int 0])), (ca_39, .inl (cc_40, 32, .inl (fun _ => 0)))]) (w1 := [(q_42, .inr (6, [.int 4, .int 8, .ref ca_45, .int 0])), (ca_45, .inl (cc_46, 32, .inl (fun _ => 0)))]) hP hD [16] [0, 1, 2, 3, 4, 5, 6, 7, 8, 9, 10, 11, 12, 13, 14, 15] rfl rfl (by decide) (by decide) hk1 hFc hP1 hD1
          have hK := hK.app hK1
          have hK : va_K (dC, dI) vwCl [(cc_5, .int), (cc_10, .int), (cc_15, .int), (cc_20, .int), (cA_22, .object "ThriceCounted$Rows"), (cc_28, .int), (cc_34, .int), (cc_40, .int), (cc_46, .int)] s := hK
          generalize H1 = H at hP hS ⊢
          have hP : va_P (dC, dI) vwCl [(bo, .inr (0, [.ref q_1, .ref q_6, .ref q_11, .ref q_16, .ref q_21, .int 0])), (q_1, .inr (6, [.int 1, .int 5, .ref ca_4, .int 0])), (ca_4, .inl (cc_5, 5, .inl (fun _ => 0))), (q_6, .inr (6, [.int 4, .int 5, .ref ca_9, .int 0])), (ca_9, .inl (cc_10, 20, .inl (fun _ => 0))), (q_11, .inr (6, [.int 4, .int 8, .ref ca_14, .int 0])), (ca_14, .inl (cc_15, 32, .inl (fun _ => 0))), (q_16, .inr (6, [.int 4, .int 6, .ref ca_19, .int 0])), (ca_19, .inl (cc_20, 24, .inl (fun _ => 0))), (q_21, .inl (cA_22, 8, .inr (.inr (.inr (.inr (va_up (va_up (va_up (fun _ => none) 0 (some q_24)) 1 (some q_30)) 2 (some q_36))))))), (q_24, .inr (6, [.int 4, .int 8, .ref ca_27, .int 0])), (ca_27, .inl (cc_28, 32, .inl (fun _ => 0))), (q_30, .inr (6, [.int 4, .int 8, .ref ca_33, .int 0])), (ca_33, .inl (cc_34, 32, .inl (fun _ => 0))), (q_36, .inr (6, [.int 4, .int 8, .ref ca_39, .int 0])), (ca_39, .inl (cc_40, 32, .inl (fun _ => 0))), (q_42, .inr (6, [.int 4, .int 8, .ref ca_45, .int 0])), (ca_45, .inl (cc_46, 32, .inl (fun _ => 0)))] H := hP
          have hD : va_D A [(bo, .inr (0, [.ref q_1, .ref q_6, .ref q_11, .ref q_16, .ref q_21, .int 0])), (q_1, .inr (6, [.int 1, .int 5, .ref ca_4, .int 0])), (ca_4, .inl (cc_5, 5, .inl (fun _ => 0))), (q_6, .inr (6, [.int 4, .int 5, .ref ca_9, .int 0])), (ca_9, .inl (cc_10, 20, .inl (fun _ => 0))), (q_11, .inr (6, [.int 4, .int 8, .ref ca_14, .int 0])), (ca_14, .inl (cc_15, 32, .inl (fun _ => 0))), (q_16, .inr (6, [.int 4, .int 6, .ref ca_19, .int 0])), (ca_19, .inl (cc_20, 24, .inl (fun _ => 0))), (q_21, .inl (cA_22, 8, .inr (.inr (.inr (.inr (va_up (va_up (va_up (fun _ => none) 0 (some q_24)) 1 (some q_30)) 2 (some q_36))))))), (q_24, .inr (6, [.int 4, .int 8, .ref ca_27, .int 0])), (ca_27, .inl (cc_28, 32, .inl (fun _ => 0))), (q_30, .inr (6, [.int 4, .int 8, .ref ca_33, .int 0])), (ca_33, .inl (cc_34, 32, .inl (fun _ => 0))), (q_36, .inr (6, [.int 4, .int 8, .ref ca_39, .int 0])), (ca_39, .inl (cc_40, 32, .inl (fun _ => 0))), (q_42, .inr (6, [.int 4, .int 8, .ref ca_45, .int 0])), (ca_45, .inl (cc_46, 32, .inl (fun _ => 0)))] := hD
          refine W.widen (k := 17) (n := 249) (Nat.le_of_ble_eq_true rfl) (Nat.le_of_ble_eq_true rfl) ?_
          refine va_astq hx hb hK hP hD hS 9 4 16 6 rfl rfl rfl rfl (show ¬ ((3 : Int32) < 0 ∨ 8 ≤ (3 : Int32).toNatClampNeg) by decide) dX0_init_98 (fun H locs hP hD hS => ?_)
          have hP : va_P (dC, dI) vwCl [(bo, .inr (0, [.ref q_1, .ref q_6, .ref q_11, .ref q_16, .ref q_21, .int 0])), (q_1, .inr (6, [.int 1, .int 5, .ref ca_4, .int 0])), (ca_4, .inl (cc_5, 5, .inl (fun _ => 0))), (q_6, .inr (6, [.int 4, .int 5, .ref ca_9, .int 0])), (ca_9, .inl (cc_10, 20, .inl (fun _ => 0))), (q_11, .inr (6, [.int 4, .int 8, .ref ca_14, .int 0])), (ca_14, .inl (cc_15, 32, .inl (fun _ => 0))), (q_16, .inr (6, [.int 4, .int 6, .ref ca_19, .int 0])), (ca_19, .inl (cc_20, 24, .inl (fun _ => 0))), (q_21, .inl (cA_22, 8, .inr (.inr (.inr (.inr (va_up (va_up (va_up (va_up (fun _ => none) 0 (some q_24)) 1 (some q_30)) 2 (some q_36)) 3 (some q_42))))))), (q_24, .inr (6, [.int 4, .int 8, .ref ca_27, .int 0])), (ca_27, .inl (cc_28, 32, .inl (fun _ => 0))), (q_30, .inr (6, [.int 4, .int 8, .ref ca_33, .int 0])), (ca_33, .inl (cc_34, 32, .inl (fun _ => 0))), (q_36, .inr (6, [.int 4, .int 8, .ref ca_39, .int 0])), (ca_39, .inl (cc_40, 32, .inl (fun _ => 0))), (q_42, .inr (6, [.int 4, .int 8, .ref ca_45, .int 0])), (ca_45, .inl (cc_46, 32, .inl (fun _ => 0)))] H := hP
          have hD : va_D A [(bo, .inr (0, [.ref q_1, .ref q_6, .ref q_11, .ref q_16, .ref q_21, .int 0])), (q_1, .inr (6, [.int 1, .int 5, .ref ca_4, .int 0])), (ca_4, .inl (cc_5, 5, .inl (fun _ => 0))), (q_6, .inr (6, [.int 4, .int 5, .ref ca_9, .int 0])), (ca_9, .inl (cc_10, 20, .inl (fun _ => 0))), (q_11, .inr (6, [.int 4, .int 8, .ref ca_14, .int 0])), (ca_14, .inl (cc_15, 32, .inl (fun _ => 0))), (q_16, .inr (6, [.int 4, .int 6, .ref ca_19, .int 0])), (ca_19, .inl (cc_20, 24, .inl (fun _ => 0))), (q_21, .inl (cA_22, 8, .inr (.inr (.inr (.inr (va_up (va_up (va_up (va_up (fun _ => none) 0 (some q_24)) 1 (some q_30)) 2 (some q_36)) 3 (some q_42))))))), (q_24, .inr (6, [.int 4, .int 8, .ref ca_27, .int 0])), (ca_27, .inl (cc_28, 32, .inl (fun _ => 0))), (q_30, .inr (6, [.int 4, .int 8, .ref ca_33, .int 0])), (ca_33, .inl (cc_34, 32, .inl (fun _ => 0))), (q_36, .inr (6, [.int 4, .int 8, .ref ca_39, .int 0])), (ca_39, .inl (cc_40, 32, .inl (fun _ => 0))), (q_42, .inr (6, [.int 4, .int 8, .ref ca_45, .int 0])), (ca_45, .inl (cc_46, 32, .inl (fun _ => 0)))] := hD
          refine lv_iinc (v := 4) (lv' := [(1, .int 4), (0, .ref bo)]) hx hb dX0_init_99 hl (k := 0) rfl (by decide) (by decide) rfl (fun ls hl => ?_)
          refine lv_goto (tgt := 74) hx hb dX0_init_102 (by decide) ?_
          refine lv_iload_n hx hb dX0_init_74 rfl (lv_at hl 0 rfl) ?_
          refine lv_aload_n hx hb dX0_init_75 rfl (lv_at hl 1 rfl) ?_
          refine va_get (D := (dC, dI)) (ci := 0) (v := .ref q_21) (C := RX0) (T := TX0) (N := 6) hx hb hts iw_i_bank_X0 hown hK hP 0 rfl rfl 4 (by decide) (hts (.fieldLink RX0 29 "ThriceCounted$Bank" "earlier" "[LThriceCounted$Rows;") (by decide +kernel)) (fun _ h9 => h9) rfl dX0_init_76 ?_
          refine va_alen (v := 8) hx hb hK hP 9 4 rfl rfl rfl dX0_init_79 ?_
          refine lv_icmp_ge (tgt := 105) hx hb dX0_init_80 (by decide) (fun c_47 => ?_) (fun c_47 => ?_)
          · exact absurd c_47 (by decide)
          · refine lv_aload_n hx hb dX0_init_83 rfl (lv_at hl 1 rfl) ?_
            refine va_get (D := (dC, dI)) (ci := 0) (v := .ref q_21) (C := RX0) (T := TX0) (N := 6) hx hb hts iw_i_bank_X0 hown hK hP 0 rfl rfl 4 (by decide) (hts (.fieldLink RX0 29 "ThriceCounted$Bank" "earlier" "[LThriceCounted$Rows;") (by decide +kernel)) (fun _ h9 => h9) rfl dX0_init_84 ?_
            refine lv_iload_n hx hb dX0_init_87 rfl (lv_at hl 0 rfl) ?_
            refine va_new (ci := 6) (fs := [.int 0, .int 0, .null, .int 0]) (C := RX6) (T := TX6) (N := 4) hx hb hts iw_i_bank_X6 tyX6 tyX6_ok hown (hts (.classLink RX0 9 RX6) (by decide +kernel)) (hts (.instantiable RX6 4) (by decide +kernel)) (hts (.initialized RX6) (by decide +kernel)) hK hP hD hS hA rfl (fun j hj => by rcases (show j = 0 ∨ j = 1 ∨ j = 2 ∨ j = 3 by omega) with rfl | rfl | rfl | rfl <;> rfl) (Nat.le_of_ble_eq_true rfl) (Nat.le_of_ble_eq_true rfl) dX0_init_88 (fun q_48 H hP hD hS => ?_)
            have hP : va_P (dC, dI) vwCl [(bo, .inr (0, [.ref q_1, .ref q_6, .ref q_11, .ref q_16, .ref q_21, .int 0])), (q_1, .inr (6, [.int 1, .int 5, .ref ca_4, .int 0])), (ca_4, .inl (cc_5, 5, .inl (fun _ => 0))), (q_6, .inr (6, [.int 4, .int 5, .ref ca_9, .int 0])), (ca_9, .inl (cc_10, 20, .inl (fun _ => 0))), (q_11, .inr (6, [.int 4, .int 8, .ref ca_14, .int 0])), (ca_14, .inl (cc_15, 32, .inl (fun _ => 0))), (q_16, .inr (6, [.int 4, .int 6, .ref ca_19, .int 0])), (ca_19, .inl (cc_20, 24, .inl (fun _ => 0))), (q_21, .inl (cA_22, 8, .inr (.inr (.inr (.inr (va_up (va_up (va_up (va_up (fun _ => none) 0 (some q_24)) 1 (some q_30)) 2 (some q_36)) 3 (some q_42))))))), (q_24, .inr (6, [.int 4, .int 8, .ref ca_27, .int 0])), (ca_27, .inl (cc_28, 32, .inl (fun _ => 0))), (q_30, .inr (6, [.int 4, .int 8, .ref ca_33, .int 0])), (ca_33, .inl (cc_34, 32, .inl (fun _ => 0))), (q_36, .inr (6, [.int 4, .int 8, .ref ca_39, .int 0])), (ca_39, .inl (cc_40, 32, .inl (fun _ => 0))), (q_42, .inr (6, [.int 4, .int 8, .ref ca_45, .int 0])), (ca_45, .inl (cc_46, 32, .inl (fun _ => 0))), (q_48, .inr (6, [.int 0, .int 0, .null, .int 0]))] H := hP
            have hD : va_D A [(bo, .inr (0, [.ref q_1, .ref q_6, .ref q_11, .ref q_16, .ref q_21, .int 0])), (q_1, .inr (6, [.int 1, .int 5, .ref ca_4, .int 0])), (ca_4, .inl (cc_5, 5, .inl (fun _ => 0))), (q_6, .inr (6, [.int 4, .int 5, .ref ca_9, .int 0])), (ca_9, .inl (cc_10, 20, .inl (fun _ => 0))), (q_11, .inr (6, [.int 4, .int 8, .ref ca_14, .int 0])), (ca_14, .inl (cc_15, 32, .inl (fun _ => 0))), (q_16, .inr (6, [.int 4, .int 6, .ref ca_19, .int 0])), (ca_19, .inl (cc_20, 24, .inl (fun _ => 0))), (q_21, .inl (cA_22, 8, .inr (.inr (.inr (.inr (va_up (va_up (va_up (va_up (fun _ => none) 0 (some q_24)) 1 (some q_30)) 2 (some q_36)) 3 (some q_42))))))), (q_24, .inr (6, [.int 4, .int 8, .ref ca_27, .int 0])), (ca_27, .inl (cc_28, 32, .inl (fun _ => 0))), (q_30, .inr (6, [.int 4, .int 8, .ref ca_33, .int 0])), (ca_33, .inl (cc_34, 32, .inl (fun _ => 0))), (q_36, .inr (6, [.int 4, .int 8, .ref ca_39, .int 0])), (ca_39, .inl (cc_40, 32, .inl (fun _ => 0))), (q_42, .inr (6, [.int 4, .int 8, .ref ca_45, .int 0])), (ca_45, .inl (cc_46, 32, .inl (fun _ => 0))), (q_48, .inr (6, [.int 0, .int 0, .null, .int 0]))] := hD
            refine W.widen (k := 18) (n := 253) (Nat.le_of_ble_eq_true rfl) (Nat.le_of_ble_eq_true rfl) ?_
            refine lv_dup hx hb dX0_init_91 rfl ?_
            refine lv_bipush (v := 8) hx hb dX0_init_92 (by decide) ?_
            refine lv_iconst (v := 4) hx hb dX0_init_94 (by decide) ?_
            have hPc := hP.sub (ws' := [(q_48, .inr (6, [.int 0, .int 0, .null, .int 0]))]) [18] rfl
            have hDc := hD.sub (ws' := [(q_48, .inr (6, [.int 0, .int 0, .null, .int 0]))]) [18] (by decide) rfl
            have hKc := hK.sub (tys' := []) [] rfl
            have hFc := va_free (wc := [(q_48, .inr (6, [.int 0, .int 0, .null, .int 0]))]) hD hS hA [18] rfl
            refine va_callv (va_runI (As := [.int 8, .int 4]) (rest := [.ref q_48, .int 4, .ref q_21]) ⟨hx, hb, hml, hown, hts⟩ (i_rows_32 l dC dI q_48 H.size) (cwI 2 hts gX0_init_X6_init rfl rfl rfl (hts (.initialized RX6) (by decide +kernel)) (hts (.methodLink RX0 11 yX6_init) (by decide +kernel)) (hts (.instanceMethod yX6_init) (by decide +kernel)) rfl (by decide +kernel) ⟨Nat.le_of_ble_eq_true rfl, Nat.le_of_ble_eq_true rfl⟩) ⟨fun a U g mk q => by obtain ⟨q0, q1, qP, qK, qD⟩ := q; exact ⟨q0, q1, qP, va_K.moved (u := U) (U := U.calling g mk a) (Vm.Alike.refl U.vm) qK, qD⟩, fun U hU hW => ⟨rfl, by rw [hU], by rw [hU]; exact hPc, va_K.moved hW.alike hKc, hDc.weaken (fun _ _ _ _ => trivial)⟩⟩ rfl rfl hl.1 rfl (lv_room (Nat.le_of_ble_eq_true rfl)) dX0_init_95 ⟨Nat.le_of_ble_eq_true rfl, Nat.le_of_ble_eq_true rfl⟩) hS (fun q _ h => hFc q h) hFc (fun u_ t H1 locs ht hvm hw_50 hB hz1 hk1 hS => ?_)
            obtain ⟨ca_51, cc_52, hP1, hK1, hD1⟩ := hB
            rw [ht] at hP1
            have hK1 := va_K.moved hvm.symm hK1
            obtain ⟨hP, hD⟩ := va_join (wr := [(bo, .inr (0, [.ref q_1, .ref q_6, .ref q_11, .ref q_16, .ref q_21, .int 0])), (q_1, .inr (6, [.int 1, .int 5, .ref ca_4, .int 0])), (ca_4, .inl (cc_5, 5, .inl (fun _ => 0))), (q_6, .inr (6, [.int 4, .int 5, .ref ca_9, .int 0])), (ca_9, .inl (cc_10, 20, .inl (fun _ => 0))), (q_11, .inr (6, [.int 4, .int 8, .ref ca_14, .int 0])), (ca_14, .inl (cc_15, 32, .inl (fun _ => 0))), (q_16, .inr (6, [.int 4, .int 6, .ref ca_19, .int 0])), (ca_19, .inl (cc_20, 24, .inl (fun _ => 0))), (q_21, .inl (cA_22, 8, .inr (.inr (.inr (.inr (va_up (va_up (va_up (va_up (fun _ => none) 0 (some q_24)) 1 (some q_30)) 2 (some q_36)) 3 (some q_42))))))), (q_24, .inr (6, [.int 4, .int 8, .ref ca_27, .int 0])), (ca_27, .inl (cc_28, 32, .inl (fun _ => 0))), (q_30, .inr (6, [.int 4, .int 8, .ref ca_33, .int 0])), (ca_33, .inl (cc_34, 32, .inl (fun _ => 0))), (q_36, .inr (6, [.int 4, .int 8, .ref ca_39, .int 0])), (ca_39, .inl (cc_40, 32, .inl (fun _ => 0))), (q_42, .inr (6, [.int 4, .int 8, .ref ca_45, .int 0])), (ca_45, .inl (cc_46, 32, .inl (fun _ => 0)))]) (w1 := [(q_48, .inr (6, [.int 4, .int 8, .ref ca_51, .int 0])), (ca_51, .inl (cc_52, 32, .inl (fun _ => 0)))]) hP hD [18] [0, 1, 2, 3, 4, 5, 6, 7, 8, 9, 10, 11, 12, 13, 14, 15, 16, 17] rfl rfl (by decide) (by decide) hk1 hFc hP1 hD1
            have hK := hK.app hK1
            have hK : va_K (dC, dI) vwCl [(cc_5, .int), (cc_10, .int), (cc_15, .int), (cc_20, .int), (cA_22, .object "ThriceCounted$Rows"), (cc_28, .int), (cc_34, .int), (cc_40, .int), (cc_46, .int), (cc_52, .int)] s := hK
            generalize H1 = H at hP hS ⊢
            have hP : va_P (dC, dI) vwCl [(bo, .inr (0, [.ref q_1, .ref q_6, .ref q_11, .ref q_16, .ref q_21, .int 0])), (q_1, .inr (6, [.int 1, .int 5, .ref ca_4, .int 0])), (ca_4, .inl (cc_5, 5, .inl (fun _ => 0))), (q_6, .inr (6, [.int 4, .int 5, .ref ca_9, .int 0])), (ca_9, .inl (cc_10, 20, .inl (fun _ => 0))), (q_11, .inr (6, [.int 4, .int 8, .ref ca_14, .int 0])), (ca_14, .inl (cc_15, 32, .inl (fun _ => 0))), (q_16, .inr (6, [.int 4, .int 6, .ref ca_19, .int 0])), (ca_19, .inl (cc_20, 24, .inl (fun _ => 0))), (q_21, .inl (cA_22, 8, .inr (.inr (.inr (.inr (va_up (va_up (va_up (va_up (fun _ => none) 0 (some q_24)) 1 (some q_30)) 2 (some q_36)) 3 (some q_42))))))), (q_24, .inr (6, [.int 4, .int 8, .ref ca_27, .int 0])), (ca_27, .inl (cc_28, 32, .inl (fun _ => 0))), (q_30, .inr (6, [.int 4, .int 8, .ref ca_33, .int 0])), (ca_33, .inl (cc_34, 32, .inl (fun _ => 0))), (q_36, .inr (6, [.int 4, .int 8, .ref ca_39, .int 0])), (ca_39, .inl (cc_40, 32, .inl (fun _ => 0))), (q_42, .inr (6, [.int 4, .int 8, .ref ca_45, .int 0])), (ca_45, .inl (cc_46, 32, .inl (fun _ => 0))), (q_48, .inr (6, [.int 4, .int 8, .ref ca_51, .int 0])), (ca_51, .inl (cc_52, 32, .inl (fun _ => 0)))] H := hP
            have hD : va_D A [(bo, .inr (0, [.ref q_1, .ref q_6, .ref q_11, .ref q_16, .ref q_21, .int 0])), (q_1, .inr (6, [.int 1, .int 5, .ref ca_4, .int 0])), (ca_4, .inl (cc_5, 5, .inl (fun _ => 0))), (q_6, .inr (6, [.int 4, .int 5, .ref ca_9, .int 0])), (ca_9, .inl (cc_10, 20, .inl (fun _ => 0))), (q_11, .inr (6, [.int 4, .int 8, .ref ca_14, .int 0])), (ca_14, .inl (cc_15, 32, .inl (fun _ => 0))), (q_16, .inr (6, [.int 4, .int 6, .ref ca_19, .int 0])), (ca_19, .inl (cc_20, 24, .inl (fun _ => 0))), (q_21, .inl (cA_22, 8, .inr (.inr (.inr (.inr (va_up (va_up (va_up (va_up (fun _ => none) 0 (some q_24)) 1 (some q_30)) 2 (some q_36)) 3 (some q_42))))))), (q_24, .inr (6, [.int 4, .int 8, .ref ca_27, .int 0])), (ca_27, .inl (cc_28, 32, .inl (fun _ => 0))), (q_30, .inr (6, [.int 4, .int 8, .ref ca_33, .int 0])), (ca_33, .inl (cc_34, 32, .inl (fun _ => 0))), (q_36, .inr (6, [.int 4, .int 8, .ref ca_39, .int 0])), (ca_39, .inl (cc_40, 32, .inl (fun _ => 0))), (q_42, .inr (6, [.int 4, .int 8, .ref ca_45, .int 0])), (ca_45, .inl (cc_46, 32, .inl (fun _ => 0))), (q_48, .inr (6, [.int 4, .int 8, .ref ca_51, .int 0])), (ca_51, .inl (cc_52, 32, .inl (fun _ => 0)))] := hD
            refine W.widen (k := 19) (n := 285) (Nat.le_of_ble_eq_true rfl) (Nat.le_of_ble_eq_true rfl) ?_
            refine va_astq hx hb hK hP hD hS 9 4 18 6 rfl rfl rfl rfl (show ¬ ((4 : Int32) < 0 ∨ 8 ≤ (4 : Int32).toNatClampNeg) by decide) dX0_init_98 (fun H locs hP hD hS => ?_)
            have hP : va_P (dC, dI) vwCl [(bo, .inr (0, [.ref q_1, .ref q_6, .ref q_11, .ref q_16, .ref q_21, .int 0])), (q_1, .inr (6, [.int 1, .int 5, .ref ca_4, .int 0])), (ca_4, .inl (cc_5, 5, .inl (fun _ => 0))), (q_6, .inr (6, [.int 4, .int 5, .ref ca_9, .int 0])), (ca_9, .inl (cc_10, 20, .inl (fun _ => 0))), (q_11, .inr (6, [.int 4, .int 8, .ref ca_14, .int 0])), (ca_14, .inl (cc_15, 32, .inl (fun _ => 0))), (q_16, .inr (6, [.int 4, .int 6, .ref ca_19, .int 0])), (ca_19, .inl (cc_20, 24, .inl (fun _ => 0))), (q_21, .inl (cA_22, 8, .inr (.inr (.inr (.inr (va_up (va_up (va_up (va_up (va_up (fun _ => none) 0 (some q_24)) 1 (some q_30)) 2 (some q_36)) 3 (some q_42)) 4 (some q_48))))))), (q_24, .inr (6, [.int 4, .int 8, .ref ca_27, .int 0])), (ca_27, .inl (cc_28, 32, .inl (fun _ => 0))), (q_30, .inr (6, [.int 4, .int 8, .ref ca_33, .int 0])), (ca_33, .inl (cc_34, 32, .inl (fun _ => 0))), (q_36, .inr (6, [.int 4, .int 8, .ref ca_39, .int 0])), (ca_39, .inl (cc_40, 32, .inl (fun _ => 0))), (q_42, .inr (6, [.int 4, .int 8, .ref ca_45, .int 0])), (ca_45, .inl (cc_46, 32, .inl (fun _ => 0))), (q_48, .inr (6, [.int 4, .int 8, .ref ca_51, .int 0])), (ca_51, .inl (cc_52, 32, .inl (fun _ => 0)))] H := hP
            have hD : va_D A [(bo, .inr (0, [.ref q_1, .ref q_6, .ref q_11, .ref q_16, .ref q_21, .int 0])), (q_1, .inr (6, [.int 1, .int 5, .ref ca_4, .int 0])), (ca_4, .inl (cc_5, 5, .inl (fun _ => 0))), (q_6, .inr (6, [.int 4, .int 5, .ref ca_9, .int 0])), (ca_9, .inl (cc_10, 20, .inl (fun _ => 0))), (q_11, .inr (6, [.int 4, .int 8, .ref ca_14, .int 0])), (ca_14, .inl (cc_15, 32, .inl (fun _ => 0))), (q_16, .inr (6, [.int 4, .int 6, .ref ca_19, .int 0])), (ca_19, .inl (cc_20, 24, .inl (fun _ => 0))), (q_21, .inl (cA_22, 8, .inr (.inr (.inr (.inr (va_up (va_up (va_up (va_up (va_up (fun _ => none) 0 (some q_24)) 1 (some q_30)) 2 (some q_36)) 3 (some q_42)) 4 (some q_48))))))), (q_24, .inr (6, [.int 4, .int 8, .ref ca_27, .int 0])), (ca_27, .inl (cc_28, 32, .inl (fun _ => 0))), (q_30, .inr (6, [.int 4, .int 8, .ref ca_33, .int 0])), (ca_33, .inl (cc_34, 32, .inl (fun _ => 0))), (q_36, .inr (6, [.int 4, .int 8, .ref ca_39, .int 0])), (ca_39, .inl (cc_40, 32, .inl (fun _ => 0))), (q_42, .inr (6, [.int 4, .int 8, .ref ca_45, .int 0])), (ca_45, .inl (cc_46, 32, .inl (fun _ => 0))), (q_48, .inr (6, [.int 4, .int 8, .ref ca_51, .int 0])), (ca_51, .inl (cc_52, 32, .inl (fun _ => 0)))] := hD
            refine lv_iinc (v := 5) (lv' := [(1, .int 5), (0, .ref bo)]) hx hb dX0_init_99 hl (k := 0) rfl (by decide) (by decide) rfl (fun ls hl => ?_)
            refine lv_goto (tgt := 74) hx hb dX0_init_102 (by decide) ?_
            refine lv_iload_n hx hb dX0_init_74 rfl (lv_at hl 0 rfl) ?_
            refine lv_aload_n hx hb dX0_init_75 rfl (lv_at hl 1 rfl) ?_
            refine va_get (D := (dC, dI)) (ci := 0) (v := .ref q_21) (C := RX0) (T := TX0) (N := 6) hx hb hts iw_i_bank_X0 hown hK hP 0 rfl rfl 4 (by decide) (hts (.fieldLink RX0 29 "ThriceCounted$Bank" "earlier" "[LThriceCounted$Rows;") (by decide +kernel)) (fun _ h9 => h9) rfl dX0_init_76 ?_
            refine va_alen (v := 8) hx hb hK hP 9 4 rfl rfl rfl dX0_init_79 ?_
            refine lv_icmp_ge (tgt := 105) hx hb dX0_init_80 (by decide) (fun c_53 => ?_) (fun c_53 => ?_)
            · exact absurd c_53 (by decide)
            · refine lv_aload_n hx hb dX0_init_83 rfl (lv_at hl 1 rfl) ?_
              refine va_get (D := (dC, dI)) (ci := 0) (v := .ref q_21) (C := RX0) (T := TX0) (N := 6) hx hb hts iw_i_bank_X0 hown hK hP 0 rfl rfl 4 (by decide) (hts (.fieldLink RX0 29 "ThriceCounted$Bank" "earlier" "[LThriceCounted$Rows;") (by decide +kernel)) (fun _ h9 => h9) rfl dX0_init_84 ?_
              refine lv_iload_n hx hb dX0_init_87 rfl (lv_at hl 0 rfl) ?_
              refine va_new (ci := 6) (fs := [.int 0, .int 0, .null, .int 0]) (C := RX6) (T := TX6) (N := 4) hx hb hts iw_i_bank_X6 tyX6 tyX6_ok hown (hts (.classLink RX0 9 RX6) (by decide +kernel)) (hts (.instantiable RX6 4) (by decide +kernel)) (hts (.initialized RX6) (by decide +kernel)) hK hP hD hS hA rfl (fun j hj => by rcases (show j = 0 ∨ j = 1 ∨ j = 2 ∨ j = 3 by omega) with rfl | rfl | rfl | rfl <;> rfl) (Nat.le_of_ble_eq_true rfl) (Nat.le_of_ble_eq_true rfl) dX0_init_88 (fun q_54 H hP hD hS => ?_)
              have hP : va_P (dC, dI) vwCl [(bo, .inr (0, [.ref q_1, .ref q_6, .ref q_11, .ref q_16, .ref q_21, .int 0])), (q_1, .inr (6, [.int 1, .int 5, .ref ca_4, .int 0])), (ca_4, .inl (cc_5, 5, .inl (fun _ => 0))), (q_6, .inr (6, [.int 4, .int 5, .ref ca_9, .int 0])), (ca_9, .inl (cc_10, 20, .inl (fun _ => 0))), (q_11, .inr (6, [.int 4, .int 8, .ref ca_14, .int 0])), (ca_14, .inl (cc_15, 32, .inl (fun _ => 0))), (q_16, .inr (6, [.int 4, .int 6, .ref ca_19, .int 0])), (ca_19, .inl (cc_20, 24, .inl (fun _ => 0))), (q_21, .inl (cA_22, 8, .inr (.inr (.inr (.inr (va_up (va_up (va_up (va_up (va_up (fun _ => none) 0 (some q_24)) 1 (some q_30)) 2 (some q_36)) 3 (some q_42)) 4 (some q_48))))))), (q_24, .inr (6, [.int 4, .int 8, .ref ca_27, .int 0])), (ca_27, .inl (cc_28, 32, .inl (fun _ => 0))), (q_30, .inr (6, [.int 4, .int 8, .ref ca_33, .int 0])), (ca_33, .inl (cc_34, 32, .inl (fun _ => 0))), (q_36, .inr (6, [.int 4, .int 8, .ref ca_39, .int 0])), (ca_39, .inl (cc_40, 32, .inl (fun _ => 0))), (q_42, .inr (6, [.int 4, .int 8, .ref ca_45, .int 0])), (ca_45, .inl (cc_46, 32, .inl (fun _ => 0))), (q_48, .inr (6, [.int 4, .int 8, .ref ca_51, .int 0])), (ca_51, .inl (cc_52, 32, .inl (fun _ => 0))), (q_54, .inr (6, [.int 0, .int 0, .null, .int 0]))] H := hP
              have hD : va_D A [(bo, .inr (0, [.ref q_1, .ref q_6, .ref q_11, .ref q_16, .ref q_21, .int 0])), (q_1, .inr (6, [.int 1, .int 5, .ref ca_4, .int 0])), (ca_4, .inl (cc_5, 5, .inl (fun _ => 0))), (q_6, .inr (6, [.int 4, .int 5, .ref ca_9, .int 0])), (ca_9, .inl (cc_10, 20, .inl (fun _ => 0))), (q_11, .inr (6, [.int 4, .int 8, .ref ca_14, .int 0])), (ca_14, .inl (cc_15, 32, .inl (fun _ => 0))), (q_16, .inr (6, [.int 4, .int 6, .ref ca_19, .int 0])), (ca_19, .inl (cc_20, 24, .inl (fun _ => 0))), (q_21, .inl (cA_22, 8, .inr (.inr (.inr (.inr (va_up (va_up (va_up (va_up (va_up (fun _ => none) 0 (some q_24)) 1 (some q_30)) 2 (some q_36)) 3 (some q_42)) 4 (some q_48))))))), (q_24, .inr (6, [.int 4, .int 8, .ref ca_27, .int 0])), (ca_27, .inl (cc_28, 32, .inl (fun _ => 0))), (q_30, .inr (6, [.int 4, .int 8, .ref ca_33, .int 0])), (ca_33, .inl (cc_34, 32, .inl (fun _ => 0))), (q_36, .inr (6, [.int 4, .int 8, .ref ca_39, .int 0])), (ca_39, .inl (cc_40, 32, .inl (fun _ => 0))), (q_42, .inr (6, [.int 4, .int 8, .ref ca_45, .int 0])), (ca_45, .inl (cc_46, 32, .inl (fun _ => 0))), (q_48, .inr (6, [.int 4, .int 8, .ref ca_51, .int 0])), (ca_51, .inl (cc_52, 32, .inl (fun _ => 0))), (q_54, .inr (6, [.int 0, .int 0, .null, .int 0]))] := hD
              refine W.widen (k := 20) (n := 289) (Nat.le_of_ble_eq_true rfl) (Nat.le_of_ble_eq_true rfl) ?_
              refine lv_dup hx hb dX0_init_91 rfl ?_
              refine lv_bipush (v := 8) hx hb dX0_init_92 (by decide) ?_
              refine lv_iconst (v := 4) hx hb dX0_init_94 (by decide) ?_
              have hPc := hP.sub (ws' := [(q_54, .inr (6, [.int 0, .int 0, .null, .int 0]))]) [20] rfl
              have hDc := hD.sub (ws' := [(q_54, .inr (6, [.int 0, .int 0, .null, .int 0]))]) [20] (by decide) rfl
              have hKc := hK.sub (tys' := []) [] rfl
              have hFc := va_free (wc := [(q_54, .inr (6, [.int 0, .int 0, .null, .int 0]))]) hD hS hA [20] rfl
              refine va_callv (va_runI (As := [.int 8, .int 4]) (rest := [.ref q_54, .int 5, .ref q_21]) ⟨hx, hb, hml, hown, hts⟩ (i_rows_32 l dC dI q_54 H.size) (cwI 2 hts gX0_init_X6_init rfl rfl rfl (hts (.initialized RX6) (by decide +kernel)) (hts (.methodLink RX0 11 yX6_init) (by decide +kernel)) (hts (.instanceMethod yX6_init) (by decide +kernel)) rfl (by decide +kernel) ⟨Nat.le_of_ble_eq_true rfl, Nat.le_of_ble_eq_true rfl⟩) ⟨fun a U g mk q => by obtain ⟨q0, q1, qP, qK, qD⟩ := q; exact ⟨q0, q1, qP, va_K.moved (u := U) (U := U.calling g mk a) (Vm.Alike.refl U.vm) qK, qD⟩, fun U hU hW => ⟨rfl, by rw [hU], by rw [hU]; exact hPc, va_K.moved hW.alike hKc, hDc.weaken (fun _ _ _ _ => trivial)⟩⟩ rfl rfl hl.1 rfl (lv_room (Nat.le_of_ble_eq_true rfl)) dX0_init_95 ⟨Nat.le_of_ble_eq_true rfl, Nat.le_of_ble_eq_true rfl⟩) hS (fun q _ h => hFc q h) hFc (fun u_ t H1 locs ht hvm hw_56 hB hz1 hk1 hS => ?_)
              obtain ⟨ca_57, cc_58, hP1, hK1, hD1⟩ := hB
              rw [ht] at hP1
              have hK1 := va_K.moved hvm.symm hK1
              obtain ⟨hP, hD⟩ := va_join (wr := [(bo, .inr (0, [.ref q_1, .ref q_6, .ref q_11, .ref q_16, .ref q_21, .int 0])), (q_1, .inr (6, [.int 1, .int 5, .ref ca_4, .int 0])), (ca_4, .inl (cc_5, 5, .inl (fun _ => 0))), (q_6, .inr (6, [.int 4, .int 5, .ref ca_9, .int 0])), (ca_9, .inl (cc_10, 20, .inl (fun _ => 0))), (q_11, .inr (6, [.int 4, .int 8, .ref ca_14, .int 0])), (ca_14, .inl (cc_15, 32, .inl (fun _ => 0))), (q_16, .inr (6, [.int 4, .int 6, .ref ca_19, .int 0])), (ca_19, .inl (cc_20, 24, .inl (fun _ => 0))), (q_21, .inl (cA_22, 8, .inr (.inr (.inr (.inr (va_up (va_up (va_up (va_up (va_up (fun _ => none) 0 (some q_24)) 1 (some q_30)) 2 (some q_36)) 3 (some q_42)) 4 (some q_48))))))), (q_24, .inr (6, [.int 4, .int 8, .ref ca_27, .int 0])), (ca_27, .inl (cc_28, 32, .inl (fun _ => 0))), (q_30, .inr (6, [.int 4, .int 8, .ref ca_33, .int 0])), (ca_33, .inl (cc_34, 32, .inl (fun _ => 0))), (q_36, .inr (6, [.int 4, .int 8, .ref ca_39, .int 0])), (ca_39, .inl (cc_40, 32, .inl (fun _ => 0))), (q_42, .inr (6, [.int 4, .int 8, .ref ca_45, .int 0])), (ca_45, .inl (cc_46, 32, .inl (fun _ => 0))), (q_48, .inr (6, [.int 4, .int 8, .ref ca_51, .int 0])), (ca_51, .inl (cc_52, 32, .inl (fun _ => 0)))]) (w1 := [(q_54, .inr (6, [.int 4, .int 8, .ref ca_57, .int 0])), (ca_57, .inl (cc_58, 32, .inl (fun _ => 0)))]) hP hD [20] [0, 1, 2, 3, 4, 5, 6, 7, 8, 9, 10, 11, 12, 13, 14, 15, 16, 17, 18, 19] rfl rfl (by decide) (by decide) hk1 hFc hP1 hD1
              have hK := hK.app hK1
              have hK : va_K (dC, dI) vwCl [(cc_5, .int), (cc_10, .int), (cc_15, .int), (cc_20, .int), (cA_22, .object "ThriceCounted$Rows"), (cc_28, .int), (cc_34, .int), (cc_40, .int), (cc_46, .int), (cc_52, .int), (cc_58, .int)] s := hK
              generalize H1 = H at hP hS ⊢
              have hP : va_P (dC, dI) vwCl [(bo, .inr (0, [.ref q_1, .ref q_6, .ref q_11, .ref q_16, .ref q_21, .int 0])), (q_1, .inr (6, [.int 1, .int 5, .ref ca_4, .int 0])), (ca_4, .inl (cc_5, 5, .inl (fun _ => 0))), (q_6, .inr (6, [.int 4, .int 5, .ref ca_9, .int 0])), (ca_9, .inl (cc_10, 20, .inl (fun _ => 0))), (q_11, .inr (6, [.int 4, .int 8, .ref ca_14, .int 0])), (ca_14, .inl (cc_15, 32, .inl (fun _ => 0))), (q_16, .inr (6, [.int 4, .int 6, .ref ca_19, .int 0])), (ca_19, .inl (cc_20, 24, .inl (fun _ => 0))), (q_21, .inl (cA_22, 8, .inr (.inr (.inr (.inr (va_up (va_up (va_up (va_up (va_up (fun _ => none) 0 (some q_24)) 1 (some q_30)) 2 (some q_36)) 3 (some q_42)) 4 (some q_48))))))), (q_24, .inr (6, [.int 4, .int 8, .ref ca_27, .int 0])), (ca_27, .inl (cc_28, 32, .inl (fun _ => 0))), (q_30, .inr (6, [.int 4, .int 8, .ref ca_33, .int 0])), (ca_33, .inl (cc_34, 32, .inl (fun _ => 0))), (q_36, .inr (6, [.int 4, .int 8, .ref ca_39, .int 0])), (ca_39, .inl (cc_40, 32, .inl (fun _ => 0))), (q_42, .inr (6, [.int 4, .int 8, .ref ca_45, .int 0])), (ca_45, .inl (cc_46, 32, .inl (fun _ => 0))), (q_48, .inr (6, [.int 4, .int 8, .ref ca_51, .int 0])), (ca_51, .inl (cc_52, 32, .inl (fun _ => 0))), (q_54, .inr (6, [.int 4, .int 8, .ref ca_57, .int 0])), (ca_57, .inl (cc_58, 32, .inl (fun _ => 0)))] H := hP
              have hD : va_D A [(bo, .inr (0, [.ref q_1, .ref q_6, .ref q_11, .ref q_16, .ref q_21, .int 0])), (q_1, .inr (6, [.int 1, .int 5, .ref ca_4, .int 0])), (ca_4, .inl (cc_5, 5, .inl (fun _ => 0))), (q_6, .inr (6, [.int 4, .int 5, .ref ca_9, .int 0])), (ca_9, .inl (cc_10, 20, .inl (fun _ => 0))), (q_11, .inr (6, [.int 4, .int 8, .ref ca_14, .int 0])), (ca_14, .inl (cc_15, 32, .inl (fun _ => 0))), (q_16, .inr (6, [.int 4, .int 6, .ref ca_19, .int 0])), (ca_19, .inl (cc_20, 24, .inl (fun _ => 0))), (q_21, .inl (cA_22, 8, .inr (.inr (.inr (.inr (va_up (va_up (va_up (va_up (va_up (fun _ => none) 0 (some q_24)) 1 (some q_30)) 2 (some q_36)) 3 (some q_42)) 4 (some q_48))))))), (q_24, .inr (6, [.int 4, .int 8, .ref ca_27, .int 0])), (ca_27, .inl (cc_28, 32, .inl (fun _ => 0))), (q_30, .inr (6, [.int 4, .int 8, .ref ca_33, .int 0])), (ca_33, .inl (cc_34, 32, .inl (fun _ => 0))), (q_36, .inr (6, [.int 4, .int 8, .ref ca_39, .int 0])), (ca_39, .inl (cc_40, 32, .inl (fun _ => 0))), (q_42, .inr (6, [.int 4, .int 8, .ref ca_45, .int 0])), (ca_45, .inl (cc_46, 32, .inl (fun _ => 0))), (q_48, .inr (6, [.int 4, .int 8, .ref ca_51, .int 0])), (ca_51, .inl (cc_52, 32, .inl (fun _ => 0))), (q_54, .inr (6, [.int 4, .int 8, .ref ca_57, .int 0])), (ca_57, .inl (cc_58, 32, .inl (fun _ => 0)))] := hD
              refine W.widen (k := 21) (n := 321) (Nat.le_of_ble_eq_true rfl) (Nat.le_of_ble_eq_true rfl) ?_
              refine va_astq hx hb hK hP hD hS 9 4 20 6 rfl rfl rfl rfl (show ¬ ((5 : Int32) < 0 ∨ 8 ≤ (5 : Int32).toNatClampNeg) by decide) dX0_init_98 (fun H locs hP hD hS => ?_)
              have hP : va_P (dC, dI) vwCl [(bo, .inr (0, [.ref q_1, .ref q_6, .ref q_11, .ref q_16, .ref q_21, .int 0])), (q_1, .inr (6, [.int 1, .int 5, .ref ca_4, .int 0])), (ca_4, .inl (cc_5, 5, .inl (fun _ => 0))), (q_6, .inr (6, [.int 4, .int 5, .ref ca_9, .int 0])), (ca_9, .inl (cc_10, 20, .inl (fun _ => 0))), (q_11, .inr (6, [.int 4, .int 8, .ref ca_14, .int 0])), (ca_14, .inl (cc_15, 32, .inl (fun _ => 0))), (q_16, .inr (6, [.int 4, .int 6, .ref ca_19, .int 0])), (ca_19, .inl (cc_20, 24, .inl (fun _ => 0))), (q_21, .inl (cA_22, 8, .inr (.inr (.inr (.inr (va_up (va_up (va_up (va_up (va_up (va_up (fun _ => none) 0 (some q_24)) 1 (some q_30)) 2 (some q_36)) 3 (some q_42)) 4 (some q_48)) 5 (some q_54))))))), (q_24, .inr (6, [.int 4, .int 8, .ref ca_27, .int 0])), (ca_27, .inl (cc_28, 32, .inl (fun _ => 0))), (q_30, .inr (6, [.int 4, .int 8, .ref ca_33, .int 0])), (ca_33, .inl (cc_34, 32, .inl (fun _ => 0))), (q_36, .inr (6, [.int 4, .int 8, .ref ca_39, .int 0])), (ca_39, .inl (cc_40, 32, .inl (fun _ => 0))), (q_42, .inr (6, [.int 4, .int 8, .ref ca_45, .int 0])), (ca_45, .inl (cc_46, 32, .inl (fun _ => 0))), (q_48, .inr (6, [.int 4, .int 8, .ref ca_51, .int 0])), (ca_51, .inl (cc_52, 32, .inl (fun _ => 0))), (q_54, .inr (6, [.int 4, .int 8, .ref ca_57, .int 0])), (ca_57, .inl (cc_58, 32, .inl (fun _ => 0)))] H := hP
              have hD : va_D A [(bo, .inr (0, [.ref q_1, .ref q_6, .ref q_11, .ref q_16, .ref q_21, .int 0])), (q_1, .inr (6, [.int 1, .int 5, .ref ca_4, .int 0])), (ca_4, .inl (cc_5, 5, .inl (fun _ => 0))), (q_6, .inr (6, [.int 4, .int 5, .ref ca_9, .int 0])), (ca_9, .inl (cc_10, 20, .inl (fun _ => 0))), (q_11, .inr (6, [.int 4, .int 8, .ref ca_14, .int 0])), (ca_14, .inl (cc_15, 32, .inl (fun _ => 0))), (q_16, .inr (6, [.int 4, .int 6, .ref ca_19, .int 0])), (ca_19, .inl (cc_20, 24, .inl (fun _ => 0))), (q_21, .inl (cA_22, 8, .inr (.inr (.inr (.inr (va_up (va_up (va_up (va_up (va_up (va_up (fun _ => none) 0 (some q_24)) 1 (some q_30)) 2 (some q_36)) 3 (some q_42)) 4 (some q_48)) 5 (some q_54))))))), (q_24, .inr (6, [.int 4, .int 8, .ref ca_27, .int 0])), (ca_27, .inl (cc_28, 32, .inl (fun _ => 0))), (q_30, .inr (6, [.int 4, .int 8, .ref ca_33, .int 0])), (ca_33, .inl (cc_34, 32, .inl (fun _ => 0))), (q_36, .inr (6, [.int 4, .int 8, .ref ca_39, .int 0])), (ca_39, .inl (cc_40, 32, .inl (fun _ => 0))), (q_42, .inr (6, [.int 4, .int 8, .ref ca_45, .int 0])), (ca_45, .inl (cc_46, 32, .inl (fun _ => 0))), (q_48, .inr (6, [.int 4, .int 8, .ref ca_51, .int 0])), (ca_51, .inl (cc_52, 32, .inl (fun _ => 0))), (q_54, .inr (6, [.int 4, .int 8, .ref ca_57, .int 0])), (ca_57, .inl (cc_58, 32, .inl (fun _ => 0)))] := hD
              refine lv_iinc (v := 6) (lv' := [(1, .int 6), (0, .ref bo)]) hx hb dX0_init_99 hl (k := 0) rfl (by decide) (by decide) rfl (fun ls hl => ?_)
              refine lv_goto (tgt := 74) hx hb dX0_init_102 (by decide) ?_
              refine lv_iload_n hx hb dX0_init_74 rfl (lv_at hl 0 rfl) ?_
              refine lv_aload_n hx hb dX0_init_75 rfl (lv_at hl 1 rfl) ?_
              refine va_get (D := (dC, dI)) (ci := 0) (v := .ref q_21) (C := RX0) (T := TX0) (N := 6) hx hb hts iw_i_bank_X0 hown hK hP 0 rfl rfl 4 (by decide) (hts (.fieldLink RX0 29 "ThriceCounted$Bank" "earlier" "[LThriceCounted$Rows;") (by decide +kernel)) (fun _ h9 => h9) rfl dX0_init_76 ?_
              refine va_alen (v := 8) hx hb hK hP 9 4 rfl rfl rfl dX0_init_79 ?_
              refine lv_icmp_ge (tgt := 105) hx hb dX0_init_80 (by decide) (fun c_59 => ?_) (fun c_59 => ?_)
              · exact absurd c_59 (by decide)
              · refine lv_aload_n hx hb dX0_init_83 rfl (lv_at hl 1 rfl) ?_
                refine va_get (D := (dC, dI)) (ci := 0) (v := .ref q_21) (C := RX0) (T := TX0) (N := 6) hx hb hts iw_i_bank_X0 hown hK hP 0 rfl rfl 4 (by decide) (hts (.fieldLink RX0 29 "ThriceCounted$Bank" "earlier" "[LThriceCounted$Rows;") (by decide +kernel)) (fun _ h9 => h9) rfl dX0_init_84 ?_
                refine lv_iload_n hx hb dX0_init_87 rfl (lv_at hl 0 rfl) ?_
                refine va_new (ci := 6) (fs := [.int 0, .int 0, .null, .int 0]) (C := RX6) (T := TX6) (N := 4) hx hb hts iw_i_bank_X6 tyX6 tyX6_ok hown (hts (.classLink RX0 9 RX6) (by decide +kernel)) (hts (.instantiable RX6 4) (by decide +kernel)) (hts (.initialized RX6) (by decide +kernel)) hK hP hD hS hA rfl (fun j hj => by rcases (show j = 0 ∨ j = 1 ∨ j = 2 ∨ j = 3 by omega) with rfl | rfl | rfl | rfl <;> rfl) (Nat.le_of_ble_eq_true rfl) (Nat.le_of_ble_eq_true rfl) dX0_init_88 (fun q_60 H hP hD hS => ?_)
                have hP : va_P (dC, dI) vwCl [(bo, .inr (0, [.ref q_1, .ref q_6, .ref q_11, .ref q_16, .ref q_21, .int 0])), (q_1, .inr (6, [.int 1, .int 5, .ref ca_4, .int 0])), (ca_4, .inl (cc_5, 5, .inl (fun _ => 0))), (q_6, .inr (6, [.int 4, .int 5, .ref ca_9, .int 0])), (ca_9, .inl (cc_10, 20, .inl (fun _ => 0))), (q_11, .inr (6, [.int 4, .int 8, .ref ca_14, .int 0])), (ca_14, .inl (cc_15, 32, .inl (fun _ => 0))), (q_16, .inr (6, [.int 4, .int 6, .ref ca_19, .int 0])), (ca_19, .inl (cc_20, 24, .inl (fun _ => 0))), (q_21, .inl (cA_22, 8, .inr (.inr (.inr (.inr (va_up (va_up (va_up (va_up (va_up (va_up (fun _ => none) 0 (some q_24)) 1 (some q_30)) 2 (some q_36)) 3 (some q_42)) 4 (some q_48)) 5 (some q_54))))))), (q_24, .inr (6, [.int 4, .int 8, .ref ca_27, .int 0])), (ca_27, .inl (cc_28, 32, .inl (fun _ => 0))), (q_30, .inr (6, [.int 4, .int 8, .ref ca_33, .int 0])), (ca_33, .inl (cc_34, 32, .inl (fun _ => 0))), (q_36, .inr (6, [.int 4, .int 8, .ref ca_39, .int 0])), (ca_39, .inl (cc_40, 32, .inl (fun _ => 0))), (q_42, .inr (6, [.int 4, .int 8, .ref ca_45, .int 0])), (ca_45, .inl (cc_46, 32, .inl (fun _ => 0))), (q_48, .inr (6, [.int 4, .int 8, .ref ca_51, .int 0])), (ca_51, .inl (cc_52, 32, .inl (fun _ => 0))), (q_54, .inr (6, [.int 4, .int 8, .ref ca_57, .int 0])), (ca_57, .inl (cc_58, 32, .inl (fun _ => 0))), (q_60, .inr (6, [.int 0, .int 0, .null, .int 0]))] H := hP
                have hD : va_D A [(bo, .inr (0, [.ref q_1, .ref q_6, .ref q_11, .ref q_16, .ref q_21, .int 0])), (q_1, .inr (6, [.int 1, .int 5, .ref ca_4, .int 0])), (ca_4, .inl (cc_5, 5, .inl (fun _ => 0))), (q_6, .inr (6, [.int 4, .int 5, .ref ca_9, .int 0])), (ca_9, .inl (cc_10, 20, .inl (fun _ => 0))), (q_11, .inr (6, [.int 4, .int 8, .ref ca_14, .int 0])), (ca_14, .inl (cc_15, 32, .inl (fun _ => 0))), (q_16, .inr (6, [.int 4, .int 6, .ref ca_19, .int 0])), (ca_19, .inl (cc_20, 24, .inl (fun _ => 0))), (q_21, .inl (cA_22, 8, .inr (.inr (.inr (.inr (va_up (va_up (va_up (va_up (va_up (va_up (fun _ => none) 0 (some q_24)) 1 (some q_30)) 2 (some q_36)) 3 (some q_42)) 4 (some q_48)) 5 (some q_54))))))), (q_24, .inr (6, [.int 4, .int 8, .ref ca_27, .int 0])), (ca_27, .inl (cc_28, 32, .inl (fun _ => 0))), (q_30, .inr (6, [.int 4, .int 8, .ref ca_33, .int 0])), (ca_33, .inl (cc_34, 32, .inl (fun _ => 0))), (q_36, .inr (6, [.int 4, .int 8, .ref ca_39, .int 0])), (ca_39, .inl (cc_40, 32, .inl (fun _ => 0))), (q_42, .inr (6, [.int 4, .int 8, .ref ca_45, .int 0])), (ca_45, .inl (cc_46, 32, .inl (fun _ => 0))), (q_48, .inr (6, [.int 4, .int 8, .ref ca_51, .int 0])), (ca_51, .inl (cc_52, 32, .inl (fun _ => 0))), (q_54, .inr (6, [.int 4, .int 8, .ref ca_57, .int 0])), (ca_57, .inl (cc_58, 32, .inl (fun _ => 0))), (q_60, .inr (6, [.int 0, .int 0, .null, .int 0]))] := hD
                refine W.widen (k := 22) (n := 325) (Nat.le_of_ble_eq_true rfl) (Nat.le_of_ble_eq_true rfl) ?_
                refine lv_dup hx hb dX0_init_91 rfl ?_
                refine lv_bipush (v := 8) hx hb dX0_init_92 (by decide) ?_
                refine lv_iconst (v := 4) hx hb dX0_init_94 (by decide) ?_
                have hPc := hP.sub (ws' := [(q_60, .inr (6, [.int 0, .int 0, .null, .int 0]))]) [22] rfl
                have hDc := hD.sub (ws' := [(q_60, .inr (6, [.int 0, .int 0, .null, .int 0]))]) [22] (by decide) rfl
                have hKc := hK.sub (tys' := []) [] rfl
                have hFc := va_free (wc := [(q_60, .inr (6, [.int 0, .int 0, .null, .int 0]))]) hD hS hA [22] rfl
                refine va_callv (va_runI (As := [.int 8, .int 4]) (rest := [.ref q_60, .int 6, .ref q_21]) ⟨hx, hb, hml, hown, hts⟩ (i_rows_32 l dC dI q_60 H.size) (cwI 2 hts gX0_init_X6_init rfl rfl rfl (hts (.initialized RX6) (by decide +kernel)) (hts (.methodLink RX0 11 yX6_init) (by decide +kernel)) (hts (.instanceMethod yX6_init) (by decide +kernel)) rfl (by decide +kernel) ⟨Nat.le_of_ble_eq_true rfl, Nat.le_of_ble_eq_true rfl⟩) ⟨fun a U g mk q => by obtain ⟨q0, q1, qP, qK, qD⟩ := q; exact ⟨q0, q1, qP, va_K.moved (u := U) (U := U.calling g mk a) (Vm.Alike.refl U.vm) qK, qD⟩, fun U hU hW => ⟨rfl, by rw [hU], by rw [hU]; exact hPc, va_K.moved hW.alike hKc, hDc.weaken (fun _ _ _ _ => trivial)⟩⟩ rfl rfl hl.1 rfl (lv_room (Nat.le_of_ble_eq_true rfl)) dX0_init_95 ⟨Nat.le_of_ble_eq_true rfl, Nat.le_of_ble_eq_true rfl⟩) hS (fun q _ h => hFc q h) hFc (fun u_ t H1 locs ht hvm hw_62 hB hz1 hk1 hS => ?_)
                obtain ⟨ca_63, cc_64, hP1, hK1, hD1⟩ := hB
                rw [ht] at hP1
                have hK1 := va_K.moved hvm.symm hK1
                obtain ⟨hP, hD⟩ := va_join (wr := [(bo, .inr (0, [.ref q_1, .ref q_6, .ref q_11, .ref q_16, .ref q_21, .int 0])), (q_1, .inr (6, [.int 1, .int 5, .ref ca_4, .int 0])), (ca_4, .inl (cc_5, 5, .inl (fun _ => 0))), (q_6, .inr (6, [.int 4, .int 5, .ref ca_9, .int 0])), (ca_9, .inl (cc_10, 20, .inl (fun _ => 0))), (q_11, .inr (6, [.int 4, .int 8, .ref ca_14, .int 0])), (ca_14, .inl (cc_15, 32, .inl (fun _ => 0))), (q_16, .inr (6, [.int 4, .int 6, .ref ca_19, .int 0])), (ca_19, .inl (cc_20, 24, .inl (fun _ => 0))), (q_21, .inl (cA_22, 8, .inr (.inr (.inr (.inr (va_up (va_up (va_up (va_up (va_up (va_up (fun _ => none) 0 (some q_24)) 1 (some q_30)) 2 (some q_36)) 3 (some q_42)) 4 (some q_48)) 5 (some q_54))))))), (q_24, .inr (6, [.int 4, .int 8, .ref ca_27, .int 0])), (ca_27, .inl (cc_28, 32, .inl (fun _ => 0))), (q_30, .inr (6, [.int 4, .int 8, .ref ca_33, .int 0])), (ca_33, .inl (cc_34, 32, .inl (fun _ => 0))), (q_36, .inr (6, [.int 4, .int 8, .ref ca_39, .int 0])), (ca_39, .inl (cc_40, 32, .inl (fun _ => 0))), (q_42, .inr (6, [.int 4, .int 8, .ref ca_45, .int 0])), (ca_45, .inl (cc_46, 32, .inl (fun _ => 0))), (q_48, .inr (6, [.int 4, .int 8, .ref ca_51, .int 0])), (ca_51, .inl (cc_52, 32, .inl (fun _ => 0))), (q_54, .inr (6, [.int 4, .int 8, .ref ca_57, .int 0])), (ca_57, .inl (cc_58, 32, .inl (fun _ => 0)))]) (w1 := [(q_60, .inr (6, [.int 4, .int 8, .ref ca_63, .int 0])), (ca_63, .inl (cc_64, 32, .inl (fun _ => 0)))]) hP hD [22] [0, 1, 2, 3, 4, 5, 6, 7, 8, 9, 10, 11, 12, 13, 14, 15, 16, 17, 18, 19, 20, 21] rfl rfl (by decide) (by decide) hk1 hFc hP1 hD1
                have hK := hK.app hK1
                have hK : va_K (dC, dI) vwCl [(cc_5, .int), (cc_10, .int), (cc_15, .int), (cc_20, .int), (cA_22, .object "ThriceCounted$Rows"), (cc_28, .int), (cc_34, .int), (cc_40, .int), (cc_46, .int), (cc_52, .int), (cc_58, .int), (cc_64, .int)] s := hK
                generalize H1 = H at hP hS ⊢
                have hP : va_P (dC, dI) vwCl [(bo, .inr (0, [.ref q_1, .ref q_6, .ref q_11, .ref q_16, .ref q_21, .int 0])), (q_1, .inr (6, [.int 1, .int 5, .ref ca_4, .int 0])), (ca_4, .inl (cc_5, 5, .inl (fun _ => 0))), (q_6, .inr (6, [.int 4, .int 5, .ref ca_9, .int 0])), (ca_9, .inl (cc_10, 20, .inl (fun _ => 0))), (q_11, .inr (6, [.int 4, .int 8, .ref ca_14, .int 0])), (ca_14, .inl (cc_15, 32, .inl (fun _ => 0))), (q_16, .inr (6, [.int 4, .int 6, .ref ca_19, .int 0])), (ca_19, .inl (cc_20, 24, .inl (fun _ => 0))), (q_21, .inl (cA_22, 8, .inr (.inr (.inr (.inr (va_up (va_up (va_up (va_up (va_up (va_up (fun _ => none) 0 (some q_24)) 1 (some q_30)) 2 (some q_36)) 3 (some q_42)) 4 (some q_48)) 5 (some q_54))))))), (q_24, .inr (6, [.int 4, .int 8, .ref ca_27, .int 0])), (ca_27, .inl (cc_28, 32, .inl (fun _ => 0))), (q_30, .inr (6, [.int 4, .int 8, .ref ca_33, .int 0])), (ca_33, .inl (cc_34, 32, .inl (fun _ => 0))), (q_36, .inr (6, [.int 4, .int 8, .ref ca_39, .int 0])), (ca_39, .inl (cc_40, 32, .inl (fun _ => 0))), (q_42, .inr (6, [.int 4, .int 8, .ref ca_45, .int 0])), (ca_45, .inl (cc_46, 32, .inl (fun _ => 0))), (q_48, .inr (6, [.int 4, .int 8, .ref ca_51, .int 0])), (ca_51, .inl (cc_52, 32, .inl (fun _ => 0))), (q_54, .inr (6, [.int 4, .int 8, .ref ca_57, .int 0])), (ca_57, .inl (cc_58, 32, .inl (fun _ => 0))), (q_60, .inr (6, [.int 4, .int 8, .ref ca_63, .int 0])), (ca_63, .inl (cc_64, 32, .inl (fun _ => 0)))] H := hP
                have hD : va_D A [(bo, .inr (0, [.ref q_1, .ref q_6, .ref q_11, .ref q_16, .ref q_21, .int 0])), (q_1, .inr (6, [.int 1, .int 5, .ref ca_4, .int 0])), (ca_4, .inl (cc_5, 5, .inl (fun _ => 0))), (q_6, .inr (6, [.int 4, .int 5, .ref ca_9, .int 0])), (ca_9, .inl (cc_10, 20, .inl (fun _ => 0))), (q_11, .inr (6, [.int 4, .int 8, .ref ca_14, .int 0])), (ca_14, .inl (cc_15, 32, .inl (fun _ => 0))), (q_16, .inr (6, [.int 4, .int 6, .ref ca_19, .int 0])), (ca_19, .inl (cc_20, 24, .inl (fun _ => 0))), (q_21, .inl (cA_22, 8, .inr (.inr (.inr (.inr (va_up (va_up (va_up (va_up (va_up (va_up (fun _ => none) 0 (some q_24)) 1 (some q_30)) 2 (some q_36)) 3 (some q_42)) 4 (some q_48)) 5 (some q_54))))))), (q_24, .inr (6, [.int 4, .int 8, .ref ca_27, .int 0])), (ca_27, .inl (cc_28, 32, .inl (fun _ => 0))), (q_30, .inr (6, [.int 4, .int 8, .ref ca_33, .int 0])), (ca_33, .inl (cc_34, 32, .inl (fun _ => 0))), (q_36, .inr (6, [.int 4, .int 8, .ref ca_39, .int 0])), (ca_39, .inl (cc_40, 32, .inl (fun _ => 0))), (q_42, .inr (6, [.int 4, .int 8, .ref ca_45, .int 0])), (ca_45, .inl (cc_46, 32, .inl (fun _ => 0))), (q_48, .inr (6, [.int 4, .int 8, .ref ca_51, .int 0])), (ca_51, .inl (cc_52, 32, .inl (fun _ => 0))), (q_54, .inr (6, [.int 4, .int 8, .ref ca_57, .int 0])), (ca_57, .inl (cc_58, 32, .inl (fun _ => 0))), (q_60, .inr (6, [.int 4, .int 8, .ref ca_63, .int 0])), (ca_63, .inl (cc_64, 32, .inl (fun _ => 0)))] := hD
                refine W.widen (k := 23) (n := 357) (Nat.le_of_ble_eq_true rfl) (Nat.le_of_ble_eq_true rfl) ?_
                refine va_astq hx hb hK hP hD hS 9 4 22 6 rfl rfl rfl rfl (show ¬ ((6 : Int32) < 0 ∨ 8 ≤ (6 : Int32).toNatClampNeg) by decide) dX0_init_98 (fun H locs hP hD hS => ?_)
                have hP : va_P (dC, dI) vwCl [(bo, .inr (0, [.ref q_1, .ref q_6, .ref q_11, .ref q_16, .ref q_21, .int 0])), (q_1, .inr (6, [.int 1, .int 5, .ref ca_4, .int 0])), (ca_4, .inl (cc_5, 5, .inl (fun _ => 0))), (q_6, .inr (6, [.int 4, .int 5, .ref ca_9, .int 0])), (ca_9, .inl (cc_10, 20, .inl (fun _ => 0))), (q_11, .inr (6, [.int 4, .int 8, .ref ca_14, .int 0])), (ca_14, .inl (cc_15, 32, .inl (fun _ => 0))), (q_16, .inr (6, [.int 4, .int 6, .ref ca_19, .int 0])), (ca_19, .inl (cc_20, 24, .inl (fun _ => 0))), (q_21, .inl (cA_22, 8, .inr (.inr (.inr (.inr (va_up (va_up (va_up (va_up (va_up (va_up (va_up (fun _ => none) 0 (some q_24)) 1 (some q_30)) 2 (some q_36)) 3 (some q_42)) 4 (some q_48)) 5 (some q_54)) 6 (some q_60))))))), (q_24, .inr (6, [.int 4, .int 8, .ref ca_27, .int 0])), (ca_27, .inl (cc_28, 32, .inl (fun _ => 0))), (q_30, .inr (6, [.int 4, .int 8, .ref ca_33, .int 0])), (ca_33, .inl (cc_34, 32, .inl (fun _ => 0))), (q_36, .inr (6, [.int 4, .int 8, .ref ca_39, .int 0])), (ca_39, .inl (cc_40, 32, .inl (fun _ => 0))), (q_42, .inr (6, [.int 4, .int 8, .ref ca_45, .int 0])), (ca_45, .inl (cc_46, 32, .inl (fun _ => 0))), (q_48, .inr (6, [.int 4, .int 8, .ref ca_51, .int 0])), (ca_51, .inl (cc_52, 32, .inl (fun _ => 0))), (q_54, .inr (6, [.int 4, .int 8, .ref ca_57, .int 0])), (ca_57, .inl (cc_58, 32, .inl (fun _ => 0))), (q_60, .inr (6, [.int 4, .int 8, .ref ca_63, .int 0])), (ca_63, .inl (cc_64, 32, .inl (fun _ => 0)))] H := hP
                have hD : va_D A [(bo, .inr (0, [.ref q_1, .ref q_6, .ref q_11, .ref q_16, .ref q_21, .int 0])), (q_1, .inr (6, [.int 1, .int 5, .ref ca_4, .int 0])), (ca_4, .inl (cc_5, 5, .inl (fun _ => 0))), (q_6, .inr (6, [.int 4, .int 5, .ref ca_9, .int 0])), (ca_9, .inl (cc_10, 20, .inl (fun _ => 0))), (q_11, .inr (6, [.int 4, .int 8, .ref ca_14, .int 0])), (ca_14, .inl (cc_15, 32, .inl (fun _ => 0))), (q_16, .inr (6, [.int 4, .int 6, .ref ca_19, .int 0])), (ca_19, .inl (cc_20, 24, .inl (fun _ => 0))), (q_21, .inl (cA_22, 8, .inr (.inr (.inr (.inr (va_up (va_up (va_up (va_up (va_up (va_up (va_up (fun _ => none) 0 (some q_24)) 1 (some q_30)) 2 (some q_36)) 3 (some q_42)) 4 (some q_48)) 5 (some q_54)) 6 (some q_60))))))), (q_24, .inr (6, [.int 4, .int 8, .ref ca_27, .int 0])), (ca_27, .inl (cc_28, 32, .inl (fun _ => 0))), (q_30, .inr (6, [.int 4, .int 8, .ref ca_33, .int 0])), (ca_33, .inl (cc_34, 32, .inl (fun _ => 0))), (q_36, .inr (6, [.int 4, .int 8, .ref ca_39, .int 0])), (ca_39, .inl (cc_40, 32, .inl (fun _ => 0))), (q_42, .inr (6, [.int 4, .int 8, .ref ca_45, .int 0])), (ca_45, .inl (cc_46, 32, .inl (fun _ => 0))), (q_48, .inr (6, [.int 4, .int 8, .ref ca_51, .int 0])), (ca_51, .inl (cc_52, 32, .inl (fun _ => 0))), (q_54, .inr (6, [.int 4, .int 8, .ref ca_57, .int 0])), (ca_57, .inl (cc_58, 32, .inl (fun _ => 0))), (q_60, .inr (6, [.int 4, .int 8, .ref ca_63, .int 0])), (ca_63, .inl (cc_64, 32, .inl (fun _ => 0)))] := hD
                refine lv_iinc (v := 7) (lv' := [(1, .int 7), (0, .ref bo)]) hx hb dX0_init_99 hl (k := 0) rfl (by decide) (by decide) rfl (fun ls hl => ?_)
                refine lv_goto (tgt := 74) hx hb dX0_init_102 (by decide) ?_
                refine lv_iload_n hx hb dX0_init_74 rfl (lv_at hl 0 rfl) ?_
                refine lv_aload_n hx hb dX0_init_75 rfl (lv_at hl 1 rfl) ?_
                refine va_get (D := (dC, dI)) (ci := 0) (v := .ref q_21) (C := RX0) (T := TX0) (N := 6) hx hb hts iw_i_bank_X0 hown hK hP 0 rfl rfl 4 (by decide) (hts (.fieldLink RX0 29 "ThriceCounted$Bank" "earlier" "[LThriceCounted$Rows;") (by decide +kernel)) (fun _ h9 => h9) rfl dX0_init_76 ?_
                refine va_alen (v := 8) hx hb hK hP 9 4 rfl rfl rfl dX0_init_79 ?_
                refine lv_icmp_ge (tgt := 105) hx hb dX0_init_80 (by decide) (fun c_65 => ?_) (fun c_65 => ?_)
                · exact absurd c_65 (by decide)
                · refine lv_aload_n hx hb dX0_init_83 rfl (lv_at hl 1 rfl) ?_
                  refine va_get (D := (dC, dI)) (ci := 0) (v := .ref q_21) (C := RX0) (T := TX0) (N := 6) hx hb hts iw_i_bank_X0 hown hK hP 0 rfl rfl 4 (by decide) (hts (.fieldLink RX0 29 "ThriceCounted$Bank" "earlier" "[LThriceCounted$Rows;") (by decide +kernel)) (fun _ h9 => h9) rfl dX0_init_84 ?_
                  refine lv_iload_n hx hb dX0_init_87 rfl (lv_at hl 0 rfl) ?_
                  refine va_new (ci := 6) (fs := [.int 0, .int 0, .null, .int 0]) (C := RX6) (T := TX6) (N := 4) hx hb hts iw_i_bank_X6 tyX6 tyX6_ok hown (hts (.classLink RX0 9 RX6) (by decide +kernel)) (hts (.instantiable RX6 4) (by decide +kernel)) (hts (.initialized RX6) (by decide +kernel)) hK hP hD hS hA rfl (fun j hj => by rcases (show j = 0 ∨ j = 1 ∨ j = 2 ∨ j = 3 by omega) with rfl | rfl | rfl | rfl <;> rfl) (Nat.le_of_ble_eq_true rfl) (Nat.le_of_ble_eq_true rfl) dX0_init_88 (fun q_66 H hP hD hS => ?_)
                  have hP : va_P (dC, dI) vwCl [(bo, .inr (0, [.ref q_1, .ref q_6, .ref q_11, .ref q_16, .ref q_21, .int 0])), (q_1, .inr (6, [.int 1, .int 5, .ref ca_4, .int 0])), (ca_4, .inl (cc_5, 5, .inl (fun _ => 0))), (q_6, .inr (6, [.int 4, .int 5, .ref ca_9, .int 0])), (ca_9, .inl (cc_10, 20, .inl (fun _ => 0))), (q_11, .inr (6, [.int 4, .int 8, .ref ca_14, .int 0])), (ca_14, .inl (cc_15, 32, .inl (fun _ => 0))), (q_16, .inr (6, [.int 4, .int 6, .ref ca_19, .int 0])), (ca_19, .inl (cc_20, 24, .inl (fun _ => 0))), (q_21, .inl (cA_22, 8, .inr (.inr (.inr (.inr (va_up (va_up (va_up (va_up (va_up (va_up (va_up (fun _ => none) 0 (some q_24)) 1 (some q_30)) 2 (some q_36)) 3 (some q_42)) 4 (some q_48)) 5 (some q_54)) 6 (some q_60))))))), (q_24, .inr (6, [.int 4, .int 8, .ref ca_27, .int 0])), (ca_27, .inl (cc_28, 32, .inl (fun _ => 0))), (q_30, .inr (6, [.int 4, .int 8, .ref ca_33, .int 0])), (ca_33, .inl (cc_34, 32, .inl (fun _ => 0))), (q_36, .inr (6, [.int 4, .int 8, .ref ca_39, .int 0])), (ca_39, .inl (cc_40, 32, .inl (fun _ => 0))), (q_42, .inr (6, [.int 4, .int 8, .ref ca_45, .int 0])), (ca_45, .inl (cc_46, 32, .inl (fun _ => 0))), (q_48, .inr (6, [.int 4, .int 8, .ref ca_51, .int 0])), (ca_51, .inl (cc_52, 32, .inl (fun _ => 0))), (q_54, .inr (6, [.int 4, .int 8, .ref ca_57, .int 0])), (ca_57, .inl (cc_58, 32, .inl (fun _ => 0))), (q_60, .inr (6, [.int 4, .int 8, .ref ca_63, .int 0])), (ca_63, .inl (cc_64, 32, .inl (fun _ => 0))), (q_66, .inr (6, [.int 0, .int 0, .null, .int 0]))] H := hP
                  have hD : va_D A [(bo, .inr (0, [.ref q_1, .ref q_6, .ref q_11, .ref q_16, .ref q_21, .int 0])), (q_1, .inr (6, [.int 1, .int 5, .ref ca_4, .int 0])), (ca_4, .inl (cc_5, 5, .inl (fun _ => 0))), (q_6, .inr (6, [.int 4, .int 5, .ref ca_9, .int 0])), (ca_9, .inl (cc_10, 20, .inl (fun _ => 0))), (q_11, .inr (6, [.int 4, .int 8, .ref ca_14, .int 0])), (ca_14, .inl (cc_15, 32, .inl (fun _ => 0))), (q_16, .inr (6, [.int 4, .int 6, .ref ca_19, .int 0])), (ca_19, .inl (cc_20, 24, .inl (fun _ => 0))), (q_21, .inl (cA_22, 8, .inr (.inr (.inr (.inr (va_up (va_up (va_up (va_up (va_up (va_up (va_up (fun _ => none) 0 (some q_24)) 1 (some q_30)) 2 (some q_36)) 3 (some q_42)) 4 (some q_48)) 5 (some q_54)) 6 (some q_60))))))), (q_24, .inr (6, [.int 4, .int 8, .ref ca_27, .int 0])), (ca_27, .inl (cc_28, 32, .inl (fun _ => 0))), (q_30, .inr (6, [.int 4, .int 8, .ref ca_33, .int 0])), (ca_33, .inl (cc_34, 32, .inl (fun _ => 0))), (q_36, .inr (6, [.int 4, .int 8, .ref ca_39, .int 0])), (ca_39, .inl (cc_40, 32, .inl (fun _ => 0))), (q_42, .inr (6, [.int 4, .int 8, .ref ca_45, .int 0])), (ca_45, .inl (cc_46, 32, .inl (fun _ => 0))), (q_48, .inr (6, [.int 4, .int 8, .ref ca_51, .int 0])), (ca_51, .inl (cc_52, 32, .inl (fun _ => 0))), (q_54, .inr (6, [.int 4, .int 8, .ref ca_57, .int 0])), (ca_57, .inl (cc_58, 32, .inl (fun _ => 0))), (q_60, .inr (6, [.int 4, .int 8, .ref ca_63, .int 0])), (ca_63, .inl (cc_64, 32, .inl (fun _ => 0))), (q_66, .inr (6, [.int 0, .int 0, .null, .int 0]))] := hD
                  refine W.widen (k := 24) (n := 361) (Nat.le_of_ble_eq_true rfl) (Nat.le_of_ble_eq_true rfl) ?_
                  refine lv_dup hx hb dX0_init_91 rfl ?_
                  refine lv_bipush (v := 8) hx hb dX0_init_92 (by decide) ?_
                  refine lv_iconst (v := 4) hx hb dX0_init_94 (by decide) ?_
                  have hPc := hP.sub (ws' := [(q_66, .inr (6, [.int 0, .int 0, .null, .int 0]))]) [24] rfl
                  have hDc := hD.sub (ws' := [(q_66, .inr (6, [.int 0, .int 0, .null, .int 0]))]) [24] (by decide) rfl
                  have hKc := hK.sub (tys' := []) [] rfl
                  have hFc := va_free (wc := [(q_66, .inr (6, [.int 0, .int 0, .null, .int 0]))]) hD hS hA [24] rfl
                  refine va_callv (va_runI (As := [.int 8, .int 4]) (rest := [.ref q_66, .int 7, .ref q_21]) ⟨hx, hb, hml, hown, hts⟩ (i_rows_32 l dC dI q_66 H.size) (cwI 2 hts gX0_init_X6_init rfl rfl rfl (hts (.initialized RX6) (by decide +kernel)) (hts (.methodLink RX0 11 yX6_init) (by decide +kernel)) (hts (.instanceMethod yX6_init) (by decide +kernel)) rfl (by decide +kernel) ⟨Nat.le_of_ble_eq_true rfl, Nat.le_of_ble_eq_true rfl⟩) ⟨fun a U g mk q => by obtain ⟨q0, q1, qP, qK, qD⟩ := q; exact ⟨q0, q1, qP, va_K.moved (u := U) (U := U.calling g mk a) (Vm.Alike.refl U.vm) qK, qD⟩, fun U hU hW => ⟨rfl, by rw [hU], by rw [hU]; exact hPc, va_K.moved hW.alike hKc, hDc.weaken (fun _ _ _ _ => trivial)⟩⟩ rfl rfl hl.1 rfl (lv_room (Nat.le_of_ble_eq_true rfl)) dX0_init_95 ⟨Nat.le_of_ble_eq_true rfl, Nat.le_of_ble_eq_true rfl⟩) hS (fun q _ h => hFc q h) hFc (fun u_ t H1 locs ht hvm hw_68 hB hz1 hk1 hS => ?_)
                  obtain ⟨ca_69, cc_70, hP1, hK1, hD1⟩ := hB
                  rw [ht] at hP1
                  have hK1 := va_K.moved hvm.symm hK1
                  obtain ⟨hP, hD⟩ := va_join (wr := [(bo, .inr (0, [.ref q_1, .ref q_6, .ref q_11, .ref q_16, .ref q_21, .int 0])), (q_1, .inr (6, [.int 1, .int 5, .ref ca_4, .int 0])), (ca_4, .inl (cc_5, 5, .inl (fun _ => 0))), (q_6, .inr (6, [.int 4, .int 5, .ref ca_9, .int 0])), (ca_9, .inl (cc_10, 20, .inl (fun _ => 0))), (q_11, .inr (6, [.int 4, .int 8, .ref ca_14, .int 0])), (ca_14, .inl (cc_15, 32, .inl (fun _ => 0))), (q_16, .inr (6, [.int 4, .int 6, .ref ca_19, .int 0])), (ca_19, .inl (cc_20, 24, .inl (fun _ => 0))), (q_21, .inl (cA_22, 8, .inr (.inr (.inr (.inr (va_up (va_up (va_up (va_up (va_up (va_up (va_up (fun _ => none) 0 (some q_24)) 1 (some q_30)) 2 (some q_36)) 3 (some q_42)) 4 (some q_48)) 5 (some q_54)) 6 (some q_60))))))), (q_24, .inr (6, [.int 4, .int 8, .ref ca_27, .int 0])), (ca_27, .inl (cc_28, 32, .inl (fun _ => 0))), (q_30, .inr (6, [.int 4, .int 8, .ref ca_33, .int 0])), (ca_33, .inl (cc_34, 32, .inl (fun _ => 0))), (q_36, .inr (6, [.int 4, .int 8, .ref ca_39, .int 0])), (ca_39, .inl (cc_40, 32, .inl (fun _ => 0))), (q_42, .inr (6, [.int 4, .int 8, .ref ca_45, .int 0])), (ca_45, .inl (cc_46, 32, .inl (fun _ => 0))), (q_48, .inr (6, [.int 4, .int 8, .ref ca_51, .int 0])), (ca_51, .inl (cc_52, 32, .inl (fun _ => 0))), (q_54, .inr (6, [.int 4, .int 8, .ref ca_57, .int 0])), (ca_57, .inl (cc_58, 32, .inl (fun _ => 0))), (q_60, .inr (6, [.int 4, .int 8, .ref ca_63, .int 0])), (ca_63, .inl (cc_64, 32, .inl (fun _ => 0)))]) (w1 := [(q_66, .inr (6, [.int 4, .int 8, .ref ca_69, .int 0])), (ca_69, .inl (cc_70, 32, .inl (fun _ => 0)))]) hP hD [24] [0, 1, 2, 3, 4, 5, 6, 7, 8, 9, 10, 11, 12, 13, 14, 15, 16, 17, 18, 19, 20, 21, 22, 23] rfl rfl (by decide) (by decide) hk1 hFc hP1 hD1
                  have hK := hK.app hK1
                  have hK : va_K (dC, dI) vwCl [(cc_5, .int), (cc_10, .int), (cc_15, .int), (cc_20, .int), (cA_22, .object "ThriceCounted$Rows"), (cc_28, .int), (cc_34, .int), (cc_40, .int), (cc_46, .int), (cc_52, .int), (cc_58, .int), (cc_64, .int), (cc_70, .int)] s := hK
                  generalize H1 = H at hP hS ⊢
                  have hP : va_P (dC, dI) vwCl [(bo, .inr (0, [.ref q_1, .ref q_6, .ref q_11, .ref q_16, .ref q_21, .int 0])), (q_1, .inr (6, [.int 1, .int 5, .ref ca_4, .int 0])), (ca_4, .inl (cc_5, 5, .inl (fun _ => 0))), (q_6, .inr (6, [.int 4, .int 5, .ref ca_9, .int 0])), (ca_9, .inl (cc_10, 20, .inl (fun _ => 0))), (q_11, .inr (6, [.int 4, .int 8, .ref ca_14, .int 0])), (ca_14, .inl (cc_15, 32, .inl (fun _ => 0))), (q_16, .inr (6, [.int 4, .int 6, .ref ca_19, .int 0])), (ca_19, .inl (cc_20, 24, .inl (fun _ => 0))), (q_21, .inl (cA_22, 8, .inr (.inr (.inr (.inr (va_up (va_up (va_up (va_up (va_up (va_up (va_up (fun _ => none) 0 (some q_24)) 1 (some q_30)) 2 (some q_36)) 3 (some q_42)) 4 (some q_48)) 5 (some q_54)) 6 (some q_60))))))), (q_24, .inr (6, [.int 4, .int 8, .ref ca_27, .int 0])), (ca_27, .inl (cc_28, 32, .inl (fun _ => 0))), (q_30, .inr (6, [.int 4, .int 8, .ref ca_33, .int 0])), (ca_33, .inl (cc_34, 32, .inl (fun _ => 0))), (q_36, .inr (6, [.int 4, .int 8, .ref ca_39, .int 0])), (ca_39, .inl (cc_40, 32, .inl (fun _ => 0))), (q_42, .inr (6, [.int 4, .int 8, .ref ca_45, .int 0])), (ca_45, .inl (cc_46, 32, .inl (fun _ => 0))), (q_48, .inr (6, [.int 4, .int 8, .ref ca_51, .int 0])), (ca_51, .inl (cc_52, 32, .inl (fun _ => 0))), (q_54, .inr (6, [.int 4, .int 8, .ref ca_57, .int 0])), (ca_57, .inl (cc_58, 32, .inl (fun _ => 0))), (q_60, .inr (6, [.int 4, .int 8, .ref ca_63, .int 0])), (ca_63, .inl (cc_64, 32, .inl (fun _ => 0))), (q_66, .inr (6, [.int 4, .int 8, .ref ca_69, .int 0])), (ca_69, .inl (cc_70, 32, .inl (fun _ => 0)))] H := hP
                  have hD : va_D A [(bo, .inr (0, [.ref q_1, .ref q_6, .ref q_11, .ref q_16, .ref q_21, .int 0])), (q_1, .inr (6, [.int 1, .int 5, .ref ca_4, .int 0])), (ca_4, .inl (cc_5, 5, .inl (fun _ => 0))), (q_6, .inr (6, [.int 4, .int 5, .ref ca_9, .int 0])), (ca_9, .inl (cc_10, 20, .inl (fun _ => 0))), (q_11, .inr (6, [.int 4, .int 8, .ref ca_14, .int 0])), (ca_14, .inl (cc_15, 32, .inl (fun _ => 0))), (q_16, .inr (6, [.int 4, .int 6, .ref ca_19, .int 0])), (ca_19, .inl (cc_20, 24, .inl (fun _ => 0))), (q_21, .inl (cA_22, 8, .inr (.inr (.inr (.inr (va_up (va_up (va_up (va_up (va_up (va_up (va_up (fun _ => none) 0 (some q_24)) 1 (some q_30)) 2 (some q_36)) 3 (some q_42)) 4 (some q_48)) 5 (some q_54)) 6 (some q_60))))))), (q_24, .inr (6, [.int 4, .int 8, .ref ca_27, .int 0])), (ca_27, .inl (cc_28, 32, .inl (fun _ => 0))), (q_30, .inr (6, [.int 4, .int 8, .ref ca_33, .int 0])), (ca_33, .inl (cc_34, 32, .inl (fun _ => 0))), (q_36, .inr (6, [.int 4, .int 8, .ref ca_39, .int 0])), (ca_39, .inl (cc_40, 32, .inl (fun _ => 0))), (q_42, .inr (6, [.int 4, .int 8, .ref ca_45, .int 0])), (ca_45, .inl (cc_46, 32, .inl (fun _ => 0))), (q_48, .inr (6, [.int 4, .int 8, .ref ca_51, .int 0])), (ca_51, .inl (cc_52, 32, .inl (fun _ => 0))), (q_54, .inr (6, [.int 4, .int 8, .ref ca_57, .int 0])), (ca_57, .inl (cc_58, 32, .inl (fun _ => 0))), (q_60, .inr (6, [.int 4, .int 8, .ref ca_63, .int 0])), (ca_63, .inl (cc_64, 32, .inl (fun _ => 0))), (q_66, .inr (6, [.int 4, .int 8, .ref ca_69, .int 0])), (ca_69, .inl (cc_70, 32, .inl (fun _ => 0)))] := hD
                  refine W.widen (k := 25) (n := 393) (Nat.le_of_ble_eq_true rfl) (Nat.le_of_ble_eq_true rfl) ?_
                  refine va_astq hx hb hK hP hD hS 9 4 24 6 rfl rfl rfl rfl (show ¬ ((7 : Int32) < 0 ∨ 8 ≤ (7 : Int32).toNatClampNeg) by decide) dX0_init_98 (fun H locs hP hD hS => ?_)
                  have hP : va_P (dC, dI) vwCl [(bo, .inr (0, [.ref q_1, .ref q_6, .ref q_11, .ref q_16, .ref q_21, .int 0])), (q_1, .inr (6, [.int 1, .int 5, .ref ca_4, .int 0])), (ca_4, .inl (cc_5, 5, .inl (fun _ => 0))), (q_6, .inr (6, [.int 4, .int 5, .ref ca_9, .int 0])), (ca_9, .inl (cc_10, 20, .inl (fun _ => 0))), (q_11, .inr (6, [.int 4, .int 8, .ref ca_14, .int 0])), (ca_14, .inl (cc_15, 32, .inl (fun _ => 0))), (q_16, .inr (6, [.int 4, .int 6, .ref ca_19, .int 0])), (ca_19, .inl (cc_20, 24, .inl (fun _ => 0))), (q_21, .inl (cA_22, 8, .inr (.inr (.inr (.inr (va_up (va_up (va_up (va_up (va_up (va_up (va_up (va_up (fun _ => none) 0 (some q_24)) 1 (some q_30)) 2 (some q_36)) 3 (some q_42)) 4 (some q_48)) 5 (some q_54)) 6 (some q_60)) 7 (some q_66))))))), (q_24, .inr (6, [.int 4, .int 8, .ref ca_27, .int 0])), (ca_27, .inl (cc_28, 32, .inl (fun _ => 0))), (q_30, .inr (6, [.int 4, .int 8, .ref ca_33, .int 0])), (ca_33, .inl (cc_34, 32, .inl (fun _ => 0))), (q_36, .inr (6, [.int 4, .int 8, .ref ca_39, .int 0])), (ca_39, .inl (cc_40, 32, .inl (fun _ => 0))), (q_42, .inr (6, [.int 4, .int 8, .ref ca_45, .int 0])), (ca_45, .inl (cc_46, 32, .inl (fun _ => 0))), (q_48, .inr (6, [.int 4, .int 8, .ref ca_51, .int 0])), (ca_51, .inl (cc_52, 32, .inl (fun _ => 0))), (q_54, .inr (6, [.int 4, .int 8, .ref ca_57, .int 0])), (ca_57, .inl (cc_58, 32, .inl (fun _ => 0))), (q_60, .inr (6, [.int 4, .int 8, .ref ca_63, .int 0])), (ca_63, .inl (cc_64, 32, .inl (fun _ => 0))), (q_66, .inr (6, [.int 4, .int 8, .ref ca_69, .int 0])), (ca_69, .inl (cc_70, 32, .inl (fun _ => 0)))] H := hP
                  have hD : va_D A [(bo, .inr (0, [.ref q_1, .ref q_6, .ref q_11, .ref q_16, .ref q_21, .int 0])), (q_1, .inr (6, [.int 1, .int 5, .ref ca_4, .int 0])), (ca_4, .inl (cc_5, 5, .inl (fun _ => 0))), (q_6, .inr (6, [.int 4, .int 5, .ref ca_9, .int 0])), (ca_9, .inl (cc_10, 20, .inl (fun _ => 0))), (q_11, .inr (6, [.int 4, .int 8, .ref ca_14, .int 0])), (ca_14, .inl (cc_15, 32, .inl (fun _ => 0))), (q_16, .inr (6, [.int 4, .int 6, .ref ca_19, .int 0])), (ca_19, .inl (cc_20, 24, .inl (fun _ => 0))), (q_21, .inl (cA_22, 8, .inr (.inr (.inr (.inr (va_up (va_up (va_up (va_up (va_up (va_up (va_up (va_up (fun _ => none) 0 (some q_24)) 1 (some q_30)) 2 (some q_36)) 3 (some q_42)) 4 (some q_48)) 5 (some q_54)) 6 (some q_60)) 7 (some q_66))))))), (q_24, .inr (6, [.int 4, .int 8, .ref ca_27, .int 0])), (ca_27, .inl (cc_28, 32, .inl (fun _ => 0))), (q_30, .inr (6, [.int 4, .int 8, .ref ca_33, .int 0])), (ca_33, .inl (cc_34, 32, .inl (fun _ => 0))), (q_36, .inr (6, [.int 4, .int 8, .ref ca_39, .int 0])), (ca_39, .inl (cc_40, 32, .inl (fun _ => 0))), (q_42, .inr (6, [.int 4, .int 8, .ref ca_45, .int 0])), (ca_45, .inl (cc_46, 32, .inl (fun _ => 0))), (q_48, .inr (6, [.int 4, .int 8, .ref ca_51, .int 0])), (ca_51, .inl (cc_52, 32, .inl (fun _ => 0))), (q_54, .inr (6, [.int 4, .int 8, .ref ca_57, .int 0])), (ca_57, .inl (cc_58, 32, .inl (fun _ => 0))), (q_60, .inr (6, [.int 4, .int 8, .ref ca_63, .int 0])), (ca_63, .inl (cc_64, 32, .inl (fun _ => 0))), (q_66, .inr (6, [.int 4, .int 8, .ref ca_69, .int 0])), (ca_69, .inl (cc_70, 32, .inl (fun _ => 0)))] := hD
                  refine lv_iinc (v := 8) (lv' := [(1, .int 8), (0, .ref bo)]) hx hb dX0_init_99 hl (k := 0) rfl (by decide) (by decide) rfl (fun ls hl => ?_)
                  refine lv_goto (tgt := 74) hx hb dX0_init_102 (by decide) ?_
                  refine lv_iload_n hx hb dX0_init_74 rfl (lv_at hl 0 rfl) ?_
                  refine lv_aload_n hx hb dX0_init_75 rfl (lv_at hl 1 rfl) ?_
                  refine va_get (D := (dC, dI)) (ci := 0) (v := .ref q_21) (C := RX0) (T := TX0) (N := 6) hx hb hts iw_i_bank_X0 hown hK hP 0 rfl rfl 4 (by decide) (hts (.fieldLink RX0 29 "ThriceCounted$Bank" "earlier" "[LThriceCounted$Rows;") (by decide +kernel)) (fun _ h9 => h9) rfl dX0_init_76 ?_
                  refine va_alen (v := 8) hx hb hK hP 9 4 rfl rfl rfl dX0_init_79 ?_
                  refine lv_icmp_ge (tgt := 105) hx hb dX0_init_80 (by decide) (fun c_71 => ?_) (fun c_71 => ?_)
                  · have hP9 := hP.sub (ws' := [(bo, .inr (0, [.ref q_1, .ref q_6, .ref q_11, .ref q_16, .ref q_21, .int 0])), (q_1, .inr (6, [.int 1, .int 5, .ref ca_4, .int 0])), (ca_4, .inl (cc_5, 5, .inl (fun _ => 0))), (q_6, .inr (6, [.int 4, .int 5, .ref ca_9, .int 0])), (ca_9, .inl (cc_10, 20, .inl (fun _ => 0))), (q_11, .inr (6, [.int 4, .int 8, .ref ca_14, .int 0])), (ca_14, .inl (cc_15, 32, .inl (fun _ => 0))), (q_16, .inr (6, [.int 4, .int 6, .ref ca_19, .int 0])), (ca_19, .inl (cc_20, 24, .inl (fun _ => 0))), (q_21, .inl (cA_22, 8, .inr (.inr (.inr (.inr (va_up (va_up (va_up (va_up (va_up (va_up (va_up (va_up (fun _ => none) 0 (some q_24)) 1 (some q_30)) 2 (some q_36)) 3 (some q_42)) 4 (some q_48)) 5 (some q_54)) 6 (some q_60)) 7 (some q_66))))))), (q_24, .inr (6, [.int 4, .int 8, .ref ca_27, .int 0])), (ca_27, .inl (cc_28, 32, .inl (fun _ => 0))), (q_30, .inr (6, [.int 4, .int 8, .ref ca_33, .int 0])), (ca_33, .inl (cc_34, 32, .inl (fun _ => 0))), (q_36, .inr (6, [.int 4, .int 8, .ref ca_39, .int 0])), (ca_39, .inl (cc_40, 32, .inl (fun _ => 0))), (q_42, .inr (6, [.int 4, .int 8, .ref ca_45, .int 0])), (ca_45, .inl (cc_46, 32, .inl (fun _ => 0))), (q_48, .inr (6, [.int 4, .int 8, .ref ca_51, .int 0])), (ca_51, .inl (cc_52, 32, .inl (fun _ => 0))), (q_54, .inr (6, [.int 4, .int 8, .ref ca_57, .int 0])), (ca_57, .inl (cc_58, 32, .inl (fun _ => 0))), (q_60, .inr (6, [.int 4, .int 8, .ref ca_63, .int 0])), (ca_63, .inl (cc_64, 32, .inl (fun _ => 0))), (q_66, .inr (6, [.int 4, .int 8, .ref ca_69, .int 0])), (ca_69, .inl (cc_70, 32, .inl (fun _ => 0)))]) [0, 1, 2, 3, 4, 5, 6, 7, 8, 9, 10, 11, 12, 13, 14, 15, 16, 17, 18, 19, 20, 21, 22, 23, 24, 25] rfl
                    have hD9 := hD.sub (ws' := [(bo, .inr (0, [.ref q_1, .ref q_6, .ref q_11, .ref q_16, .ref q_21, .int 0])), (q_1, .inr (6, [.int 1, .int 5, .ref ca_4, .int 0])), (ca_4, .inl (cc_5, 5, .inl (fun _ => 0))), (q_6, .inr (6, [.int 4, .int 5, .ref ca_9, .int 0])), (ca_9, .inl (cc_10, 20, .inl (fun _ => 0))), (q_11, .inr (6, [.int 4, .int 8, .ref ca_14, .int 0])), (ca_14, .inl (cc_15, 32, .inl (fun _ => 0))), (q_16, .inr (6, [.int 4, .int 6, .ref ca_19, .int 0])), (ca_19, .inl (cc_20, 24, .inl (fun _ => 0))), (q_21, .inl (cA_22, 8, .inr (.inr (.inr (.inr (va_up (va_up (va_up (va_up (va_up (va_up (va_up (va_up (fun _ => none) 0 (some q_24)) 1 (some q_30)) 2 (some q_36)) 3 (some q_42)) 4 (some q_48)) 5 (some q_54)) 6 (some q_60)) 7 (some q_66))))))), (q_24, .inr (6, [.int 4, .int 8, .ref ca_27, .int 0])), (ca_27, .inl (cc_28, 32, .inl (fun _ => 0))), (q_30, .inr (6, [.int 4, .int 8, .ref ca_33, .int 0])), (ca_33, .inl (cc_34, 32, .inl (fun _ => 0))), (q_36, .inr (6, [.int 4, .int 8, .ref ca_39, .int 0])), (ca_39, .inl (cc_40, 32, .inl (fun _ => 0))), (q_42, .inr (6, [.int 4, .int 8, .ref ca_45, .int 0])), (ca_45, .inl (cc_46, 32, .inl (fun _ => 0))), (q_48, .inr (6, [.int 4, .int 8, .ref ca_51, .int 0])), (ca_51, .inl (cc_52, 32, .inl (fun _ => 0))), (q_54, .inr (6, [.int 4, .int 8, .ref ca_57, .int 0])), (ca_57, .inl (cc_58, 32, .inl (fun _ => 0))), (q_60, .inr (6, [.int 4, .int 8, .ref ca_63, .int 0])), (ca_63, .inl (cc_64, 32, .inl (fun _ => 0))), (q_66, .inr (6, [.int 4, .int 8, .ref ca_69, .int 0])), (ca_69, .inl (cc_70, 32, .inl (fun _ => 0)))]) [0, 1, 2, 3, 4, 5, 6, 7, 8, 9, 10, 11, 12, 13, 14, 15, 16, 17, 18, 19, 20, 21, 22, 23, 24, 25] (by decide) rfl
                    have hK9 := hK.sub (tys' := [(cc_5, .int), (cc_10, .int), (cc_15, .int), (cc_20, .int), (cA_22, .object "ThriceCounted$Rows"), (cc_28, .int), (cc_34, .int), (cc_40, .int), (cc_46, .int), (cc_52, .int), (cc_58, .int), (cc_64, .int), (cc_70, .int)]) [0, 1, 2, 3, 4, 5, 6, 7, 8, 9, 10, 11, 12] rfl
                    refine W.widen (k := 25) (n := 393) (Nat.le_of_ble_eq_true rfl) (Nat.le_of_ble_eq_true rfl) ?_
                    exact W.vret hx hb hr (fun t ht hW => ⟨⟨(), rfl, trivial, (va_up (va_up (va_up (va_up (va_up (va_up (va_up (va_up (va_up (va_up (va_up (va_up (va_up (va_up (va_up (va_up (va_up (va_up (va_up (va_up (va_up (va_up (va_up (va_up (va_up (va_up (fun _ => 0) 0 bo) 1 q_1) 2 ca_4) 3 q_6) 4 ca_9) 5 q_11) 6 ca_14) 7 q_16) 8 ca_19) 9 q_21) 10 q_24) 11 ca_27) 12 q_30) 13 ca_33) 14 q_36) 15 ca_39) 16 q_42) 17 ca_45) 18 q_48) 19 ca_51) 20 q_54) 21 ca_57) 22 q_60) 23 ca_63) 24 q_66) 25 ca_69), (va_up (va_up (va_up (va_up (va_up (va_up (va_up (va_up (va_up (va_up (va_up (va_up (va_up (fun _ => 0) 0 cc_5) 1 cc_10) 2 cc_15) 3 cc_20) 4 cc_28) 5 cc_34) 6 cc_40) 7 cc_46) 8 cc_52) 9 cc_58) 10 cc_64) 11 cc_70) 12 cA_22), (va_up (va_up (va_up (va_up (va_up (va_up (va_up (va_up (va_up (va_up (va_up (va_up (fun _ _ => 0) 0 (fun _ => 0)) 1 (fun _ => 0)) 2 (fun _ => 0)) 3 (fun _ => 0)) 4 (fun _ => 0)) 5 (fun _ => 0)) 6 (fun _ => 0)) 7 (fun _ => 0)) 8 (fun _ => 0)) 9 (fun _ => 0)) 10 (fun _ => 0)) 11 (fun _ => 0)), (va_up (va_up (va_up (va_up (va_up (va_up (va_up (va_up (va_up (va_up (va_up (va_up (fun _ => 0) 0 0) 1 0) 2 0) 3 0) 4 0) 5 0) 6 0) 7 0) 8 0) 9 0) 10 0) 11 0), 0, rfl, ⟨(tz_up_le (tz_up_le (tz_up_le (tz_up_le (tz_up_le (tz_up_le (tz_up_le (tz_up_le (tz_up_le (tz_up_le (tz_up_le (tz_up_le (fun _ => Nat.zero_le _) (k := 0) (v := 0) (show 0 ≤ 5 by omega)) (k := 1) (v := 0) (show 0 ≤ 5 by omega)) (k := 2) (v := 0) (show 0 ≤ 8 by omega)) (k := 3) (v := 0) (show 0 ≤ 6 by omega)) (k := 4) (v := 0) (show 0 ≤ 8 by omega)) (k := 5) (v := 0) (show 0 ≤ 8 by omega)) (k := 6) (v := 0) (show 0 ≤ 8 by omega)) (k := 7) (v := 0) (show 0 ≤ 8 by omega)) (k := 8) (v := 0) (show 0 ≤ 8 by omega)) (k := 9) (v := 0) (show 0 ≤ 8 by omega)) (k := 10) (v := 0) (show 0 ≤ 8 by omega)) (k := 11) (v := 0) (show 0 ≤ 8 by omega)), show 0 ≤ 8 by omega⟩, by rw [ht]; exact hP9, va_K.moved hW.alike hK9, hD9⟩, hS.F ht⟩) hS.2.2 dX0_init_105
                  · exact absurd c_71 (by decide)
theorem dX7_init_0 : decode cX7_init 0 = .ok (.aload_n 0, 1) := by decide +kernel
theorem dX7_init_1 : decode cX7_init 1 = .ok (.invokespecial 3, 3) := by decide +kernel
theorem dX7_init_4 : decode cX7_init 4 = .ok (.aload_n 0, 1) := by decide +kernel
theorem dX7_init_5 : decode cX7_init 5 = .ok (.bipush 21, 2) := by decide +kernel
theorem dX7_init_7 : decode cX7_init 7 = .ok (.newarray .long, 2) := by decide +kernel
theorem dX7_init_9 : decode cX7_init 9 = .ok (.putfield 9, 3) := by decide +kernel
theorem dX7_init_12 : decode cX7_init 12 = .ok (.aload_n 0, 1) := by decide +kernel
theorem dX7_init_13 : decode cX7_init 13 = .ok (.bipush 21, 2) := by decide +kernel
theorem dX7_init_15 : decode cX7_init 15 = .ok (.newarray .int, 2) := by decide +kernel
theorem dX7_init_17 : decode cX7_init 17 = .ok (.putfield 15, 3) := by decide +kernel
theorem dX7_init_20 : decode cX7_init 20 = .ok (.return_, 1) := by decide +kernel
set_option maxRecDepth 20000 in
theorem iw_i_X7_X7 : ∀ w ∈ wsX70, w ∈ wsX7_init := by decide +kernel
set_option maxHeartbeats 4000000 in
set_option maxRecDepth 100000 in
theorem i_X7 (l : Launch) (dC : Nat → ClassId) (dI : Nat → Nat → Nat) (sc : Nat) (sz : Nat) : Met l yX7_init wsX7_init ({ frames := 1, cells := 2, slots := 42, locals := 12 }) (va_Pc [.ref sc] (fun U => U.heap.size = sz ∧ va_P (dC, dI) vwCl [(sc, .inr (7, [.null, .null]))] U.heap ∧ va_K (dC, dI) vwCl [] U ∧ va_D (fun _ => True) [(sc, .inr (7, [.null, .null]))])) (va_Qv (fun (_ : Unit) => True) (fun _ t => ∃ (sw : Nat) (sh : Nat) (csw : ClassId) (csh : ClassId), va_P (dC, dI) vwCl [(sc, .inr (7, [.ref sw, .ref sh])), (sw, .inl (csw, 21, .inr (.inl (fun _ => 0)))), (sh, .inl (csh, 21, .inl (fun _ => 0)))] t.heap ∧ va_K (dC, dI) vwCl [(csw, .long), (csh, .int)] t ∧ va_D (va_A [(sc, .inr (7, [.null, .null]))] sz) [(sc, .inr (7, [.ref sw, .ref sh])), (sw, .inl (csw, 21, .inr (.inl (fun _ => 0)))), (sh, .inl (csh, 21, .inl (fun _ => 0)))]) (va_A [(sc, .inr (7, [.null, .null]))] sz)) 2 42 (va_A [(sc, .inr (7, [.null, .null]))] sz) := by
  refine Met.ofW (cc := cX7_init) (maxL := 1) (ret := none) (by decide) rfl ?_
  intro p e s m args below meth c s₁ B hml hv
  obtain ⟨rfl, hsz, hP, hK, hD0⟩ := hv
  have hx := B.exec
  have hb := B.bytes
  have hr := B.returns
  have hts := atoms_spec (ws := wsX7_init) B.pre
  have hown : s.vm.findClass RX7 = some m.cls := findClass_of_methodNamed B.named
  have hlocks := B.notSynchronized
  have hin : meth.name = "<init>" := (name_of_methodNamed B.named B.method).1
  subst hsz
  have hD := hD0.self (sz := s.heap.size)
  generalize hAe : va_A [(sc, .inr (7, [.null, .null]))] s.heap.size = A at hD ⊢
  have hA : ∀ q : Nat, s.heap.size ≤ q → A q := fun q h => by rw [← hAe]; exact Or.inr h
  have hS : va_S A s.heap s.heap [] := va_S.rf
  have hP : va_P (dC, dI) vwCl [(sc, .inr (7, [.null, .null]))] s.heap := hP
  have hl := lv_entry ([.ref sc]) (n := 1) (Nat.le_of_ble_eq_true rfl)
  rw [lg_entry_eq]
  generalize (lg_sl ([.ref sc]) ++ List.replicate (1 - (lg_sl ([.ref sc])).length) Slot.unset).toArray = ls at hl ⊢
  have hl : lv_has ls 1 [(0, .ref sc)] := hl
  refine lv_aload_n hx hb dX7_init_0 rfl (lv_at hl 0 rfl) ?_
  refine W.objInit hx hb hown (hts (.methodLink RX7 3 objectInit) (by decide +kernel)) (hts (.instanceMethod objectInit) (by decide +kernel)) (hts (.code objectInit ⟨#[0xb1]⟩ 1 none) (by decide +kernel)) rfl (by rw [hml]; exact hl.1) rfl dX7_init_1 (Nat.le_of_ble_eq_true rfl) (Nat.le_of_ble_eq_true rfl) ?_
  refine W.eq (g2 := F0 m 4 ls []) rfl ?_
  refine lv_aload_n hx hb dX7_init_4 rfl (lv_at hl 0 rfl) ?_
  refine lv_bipush (v := 21) hx hb dX7_init_5 (by decide) ?_
  refine va_newa (atype := .long) (ty := .long) (a0 := (21, .inr (.inl (fun _ => 0)))) (N' := 21) hx hb (hts (.arrayClass .long) (by decide +kernel)) rfl hK hP hD hS hA (fun _ => rfl) (by decide) (by decide) (Nat.le_of_ble_eq_true rfl) (Nat.le_of_ble_eq_true rfl) (Nat.le_of_ble_eq_true rfl) dX7_init_7 (fun q_1 cA_2 H hK hP hD hS => ?_)
  have hK : va_K (dC, dI) vwCl [(cA_2, .long)] s := hK
  have hP : va_P (dC, dI) vwCl [(sc, .inr (7, [.null, .null])), (q_1, .inl (cA_2, 21, .inr (.inl (fun _ => 0))))] H := hP
  have hD : va_D A [(sc, .inr (7, [.null, .null])), (q_1, .inl (cA_2, 21, .inr (.inl (fun _ => 0))))] := hD
  refine W.widen (k := 1) (n := 21) (Nat.le_of_ble_eq_true rfl) (Nat.le_of_ble_eq_true rfl) ?_
  refine va_putF (D := (dC, dI)) (ci := 7) (v := .ref q_1) (ty := .array .long) (C := RX7) (T := TX7) (N := 2) hx hb hts iw_i_X7_X7 tyX7 tyX7_ok nmX7 hown hK hP hD hS 0 rfl rfl 0 (by decide) (hts (.fieldLink RX7 9 "ThriceCounted$Scale" "weights" "[J") (by decide +kernel)) (fun _ h9 => h9) rfl hin rfl (by decide +kernel) rfl rfl (Nat.le_of_ble_eq_true rfl) dX7_init_9 (fun H locs hP hD hS => ?_)
  have hP : va_P (dC, dI) vwCl [(sc, .inr (7, [.ref q_1, .null])), (q_1, .inl (cA_2, 21, .inr (.inl (fun _ => 0))))] H := hP
  have hD : va_D A [(sc, .inr (7, [.ref q_1, .null])), (q_1, .inl (cA_2, 21, .inr (.inl (fun _ => 0))))] := hD
  refine lv_aload_n hx hb dX7_init_12 rfl (lv_at hl 0 rfl) ?_
  refine lv_bipush (v := 21) hx hb dX7_init_13 (by decide) ?_
  refine va_newa (atype := .int) (ty := .int) (a0 := (21, .inl (fun _ => 0))) (N' := 21) hx hb (hts (.arrayClass .int) (by decide +kernel)) rfl hK hP hD hS hA (fun _ => rfl) (by decide) (by decide) (Nat.le_of_ble_eq_true rfl) (Nat.le_of_ble_eq_true rfl) (Nat.le_of_ble_eq_true rfl) dX7_init_15 (fun q_3 cA_4 H hK hP hD hS => ?_)
  have hK : va_K (dC, dI) vwCl [(cA_2, .long), (cA_4, .int)] s := hK
  have hP : va_P (dC, dI) vwCl [(sc, .inr (7, [.ref q_1, .null])), (q_1, .inl (cA_2, 21, .inr (.inl (fun _ => 0)))), (q_3, .inl (cA_4, 21, .inl (fun _ => 0)))] H := hP
  have hD : va_D A [(sc, .inr (7, [.ref q_1, .null])), (q_1, .inl (cA_2, 21, .inr (.inl (fun _ => 0)))), (q_3, .inl (cA_4, 21, .inl (fun _ => 0)))] := hD
  refine W.widen (k := 2) (n := 42) (Nat.le_of_ble_eq_true rfl) (Nat.le_of_ble_eq_true rfl) ?_
  refine va_putF (D := (dC, dI)) (ci := 7) (v := .ref q_3) (ty := .array .int) (C := RX7) (T := TX7) (N := 2) hx hb hts iw_i_X7_X7 tyX7 tyX7_ok nmX7 hown hK hP hD hS 0 rfl rfl 1 (by decide) (hts (.fieldLink RX7 15 "ThriceCounted$Scale" "chances" "[I") (by decide +kernel)) (fun _ h9 => h9) rfl hin rfl (by decide +kernel) rfl rfl (Nat.le_of_ble_eq_true rfl) dX7_init_17 (fun H locs hP hD hS => ?_)
  have hP : va_P (dC, dI) vwCl [(sc, .inr (7, [.ref q_1, .ref q_3])), (q_1, .inl (cA_2, 21, .inr (.inl (fun _ => 0)))), (q_3, .inl (cA_4, 21, .inl (fun _ => 0)))] H := hP
  have hD : va_D A [(sc, .inr (7, [.ref q_1, .ref q_3])), (q_1, .inl (cA_2, 21, .inr (.inl (fun _ => 0)))), (q_3, .inl (cA_4, 21, .inl (fun _ => 0)))] := hD
  have hP9 := hP.sub (ws' := [(sc, .inr (7, [.ref q_1, .ref q_3])), (q_1, .inl (cA_2, 21, .inr (.inl (fun _ => 0)))), (q_3, .inl (cA_4, 21, .inl (fun _ => 0)))]) [0, 1, 2] rfl
  have hD9 := hD.sub (ws' := [(sc, .inr (7, [.ref q_1, .ref q_3])), (q_1, .inl (cA_2, 21, .inr (.inl (fun _ => 0)))), (q_3, .inl (cA_4, 21, .inl (fun _ => 0)))]) [0, 1, 2] (by decide) rfl
  have hK9 := hK.sub (tys' := [(cA_2, .long), (cA_4, .int)]) [0, 1] rfl
  refine W.widen (k := 2) (n := 42) (Nat.le_of_ble_eq_true rfl) (Nat.le_of_ble_eq_true rfl) ?_
  exact W.vret hx hb hr (fun t ht hW => ⟨⟨(), rfl, trivial, q_1, q_3, cA_2, cA_4, by rw [ht]; exact hP9, va_K.moved hW.alike hK9, hD9⟩, hS.F ht⟩) hS.2.2 dX7_init_20
theorem dX2_init_0 : decode cX2_init 0 = .ok (.aload_n 0, 1) := by decide +kernel
theorem dX2_init_1 : decode cX2_init 1 = .ok (.invokespecial 1, 3) := by decide +kernel
theorem dX2_init_4 : decode cX2_init 4 = .ok (.aload_n 0, 1) := by decide +kernel
theorem dX2_init_5 : decode cX2_init 5 = .ok (.lconst 0, 1) := by decide +kernel
theorem dX2_init_6 : decode cX2_init 6 = .ok (.putfield 7, 3) := by decide +kernel
theorem dX2_init_9 : decode cX2_init 9 = .ok (.aload_n 0, 1) := by decide +kernel
theorem dX2_init_10 : decode cX2_init 10 = .ok (.lconst 1, 1) := by decide +kernel
theorem dX2_init_11 : decode cX2_init 11 = .ok (.putfield 13, 3) := by decide +kernel
theorem dX2_init_14 : decode cX2_init 14 = .ok (.return_, 1) := by decide +kernel
set_option maxRecDepth 20000 in
theorem iw_i_X2_X2 : ∀ w ∈ wsX20, w ∈ wsX2_init := by decide +kernel
set_option maxHeartbeats 4000000 in
set_option maxRecDepth 100000 in
theorem i_X2 (l : Launch) (dC : Nat → ClassId) (dI : Nat → Nat → Nat) (fo : Nat) (sz : Nat) : Met l yX2_init wsX2_init ({ frames := 1, cells := 0, slots := 0, locals := 12 }) (va_Pc [.ref fo] (fun U => U.heap.size = sz ∧ va_P (dC, dI) vwCl [(fo, .inr (2, [.long 0, .long 0]))] U.heap ∧ va_K (dC, dI) vwCl [] U ∧ va_D (fun _ => True) [(fo, .inr (2, [.long 0, .long 0]))])) (va_Qv (fun (_ : Unit) => True) (fun _ t => va_P (dC, dI) vwCl [(fo, .inr (2, [.long 0, .long 1]))] t.heap ∧ va_K (dC, dI) vwCl [] t ∧ va_D (va_A [(fo, .inr (2, [.long 0, .long 0]))] sz) [(fo, .inr (2, [.long 0, .long 1]))]) (va_A [(fo, .inr (2, [.long 0, .long 0]))] sz)) 0 0 (va_A [(fo, .inr (2, [.long 0, .long 0]))] sz) := by
  refine Met.ofW (cc := cX2_init) (maxL := 1) (ret := none) (by decide) rfl ?_
  intro p e s m args below meth c s₁ B hml hv
  obtain ⟨rfl, hsz, hP, hK, hD0⟩ := hv
  have hx := B.exec
  have hb := B.bytes
  have hr := B.returns
  have hts := atoms_spec (ws := wsX2_init) B.pre
  have hown : s.vm.findClass RX2 = some m.cls := findClass_of_methodNamed B.named
  have hlocks := B.notSynchronized
  have hin : meth.name = "<init>" := (name_of_methodNamed B.named B.method).1
  subst hsz
  have hD := hD0.self (sz := s.heap.size)
  generalize hAe : va_A [(fo, .inr (2, [.long 0, .long 0]))] s.heap.size = A at hD ⊢
  have hA : ∀ q : Nat, s.heap.size ≤ q → A q := fun q h => by rw [← hAe]; exact Or.inr h
  have hS : va_S A s.heap s.heap [] := va_S.rf
  have hP : va_P (dC, dI) vwCl [(fo, .inr (2, [.long 0, .long 0]))] s.heap := hP
  have hl := lv_entry ([.ref fo]) (n := 1) (Nat.le_of_ble_eq_true rfl)
  rw [lg_entry_eq]
  generalize (lg_sl ([.ref fo]) ++ List.replicate (1 - (lg_sl ([.ref fo])).length) Slot.unset).toArray = ls at hl ⊢
  have hl : lv_has ls 1 [(0, .ref fo)] := hl
  refine lv_aload_n hx hb dX2_init_0 rfl (lv_at hl 0 rfl) ?_
  refine W.objInit hx hb hown (hts (.methodLink RX2 1 objectInit) (by decide +kernel)) (hts (.instanceMethod objectInit) (by decide +kernel)) (hts (.code objectInit ⟨#[0xb1]⟩ 1 none) (by decide +kernel)) rfl (by rw [hml]; exact hl.1) rfl dX2_init_1 (Nat.le_of_ble_eq_true rfl) (Nat.le_of_ble_eq_true rfl) ?_
  refine W.eq (g2 := F0 m 4 ls []) rfl ?_
  refine lv_aload_n hx hb dX2_init_4 rfl (lv_at hl 0 rfl) ?_
  refine lv_lconst (v := 0) hx hb dX2_init_5 (by decide) ?_
  refine va_put (D := (dC, dI)) (ci := 2) (v := .long 0) (ty := .long) (C := RX2) (T := TX2) (N := 2) hx hb hts iw_i_X2_X2 tyX2 tyX2_ok nmX2 hown hK hP hD hS 0 rfl rfl 0 (by decide) (hts (.fieldLink RX2 7 "ThriceCounted$Fraction" "above" "J") (by decide +kernel)) (fun _ h9 => h9) rfl (by decide +kernel) rfl rfl (Nat.le_of_ble_eq_true rfl) dX2_init_6 (fun H locs hP hD hS => ?_)
  have hP : va_P (dC, dI) vwCl [(fo, .inr (2, [.long 0, .long 0]))] H := hP
  have hD : va_D A [(fo, .inr (2, [.long 0, .long 0]))] := hD
  refine lv_aload_n hx hb dX2_init_9 rfl (lv_at hl 0 rfl) ?_
  refine lv_lconst (v := 1) hx hb dX2_init_10 (by decide) ?_
  refine va_put (D := (dC, dI)) (ci := 2) (v := .long 1) (ty := .long) (C := RX2) (T := TX2) (N := 2) hx hb hts iw_i_X2_X2 tyX2 tyX2_ok nmX2 hown hK hP hD hS 0 rfl rfl 1 (by decide) (hts (.fieldLink RX2 13 "ThriceCounted$Fraction" "below" "J") (by decide +kernel)) (fun _ h9 => h9) rfl (by decide +kernel) rfl rfl (Nat.le_of_ble_eq_true rfl) dX2_init_11 (fun H locs hP hD hS => ?_)
  have hP : va_P (dC, dI) vwCl [(fo, .inr (2, [.long 0, .long 1]))] H := hP
  have hD : va_D A [(fo, .inr (2, [.long 0, .long 1]))] := hD
  have hP9 := hP.sub (ws' := [(fo, .inr (2, [.long 0, .long 1]))]) [0] rfl
  have hD9 := hD.sub (ws' := [(fo, .inr (2, [.long 0, .long 1]))]) [0] (by decide) rfl
  have hK9 := hK.sub (tys' := []) [] rfl
  exact W.vret hx hb hr (fun t ht hW => ⟨⟨(), rfl, trivial, by rw [ht]; exact hP9, va_K.moved hW.alike hK9, hD9⟩, hS.F ht⟩) hS.2.2 dX2_init_14
