theorem dX7_init_0 : decode cX7_init 0 = .ok (.aload_n 0, 1) := by decide +kernel
theorem dX7_init_1 : decode cX7_init 1 = .ok (.invokespecial 3, 3) := by decide +kernel
theorem dX7_init_4 : decode cX7_init 4 = .ok (.aload_n 0, 1) := by decide +kernel
theorem dX7_init_5 : decode cX7_init 5 = .ok (.bipush 21, 2) := by decide +kernel
theorem dX7_init_7 : decode cX7_init 7 = .ok (.newarray .long, 2) := by decide +kernel
theorem dX7_init_9 : decode cX7_init 9 = .ok (.putfield 9, 3) := by decide +kernel
theorem dX7_init_12 : decode cX7_init 12 = .ok (.aload_n 0, 1) := by decide +kernel
theorem dX7_init_13 : decode cX7_init 13 = .ok (.bipush 21, 2) := by decide +kernel
theorem dX7_init_15 : decode cX7_init 15 = .ok (.newarray .int, 2) := by decide +kernel
theorem dX7_init_17 : decode cX7_init 17 = .ok (.putfield 15, 3) := by decide +kernel
theorem dX7_init_20 : decode cX7_init 20 = .ok (.return_, 1) := by decide +kernel
set_option maxRecDepth 20000 in
theorem iw_k_init_X7_X7 : ∀ w ∈ wsX70, w ∈ wsX7_init := by decide +kernel
set_option maxHeartbeats 4000000 in
set_option maxRecDepth 100000 in
theorem k_init_X7 (l : Launch) (dC : Nat → ClassId) (dI : Nat → Nat → Nat) (so : Nat) (sz : Nat) : Met l yX7_init wsX7_init ({ frames := 1, cells := 2, slots := 42, locals := 12 }) (va_Pc [.ref so] (fun U => U.heap.size = sz ∧ va_P (dC, dI) vwCl [(so, .inr (7, [.null, .null]))] U.heap ∧ va_K (dC, dI) vwCl [] U ∧ va_D (fun _ => True) [(so, .inr (7, [.null, .null]))])) (va_Qv (fun (_ : Unit) => True) (fun _ _ => True) (va_A [(so, .inr (7, [.null, .null]))] sz)) 2 42 (va_A [(so, .inr (7, [.null, .null]))] sz) := by
  refine Met.ofW (cc := cX7_init) (maxL := 1) (ret := none) (by decide) rfl ?_
  intro p e s m args below meth c s₁ B hml hv
  obtain ⟨rfl, hsz, hP, hK, hD0⟩ := hv
  have hx := B.exec
  have hb := B.bytes
  have hr := B.returns
  have hts := atoms_spec (ws := wsX7_init) B.pre
  have hown : s.vm.findClass RX7 = some m.cls := findClass_of_methodNamed B.named
  have hlocks := B.notSynchronized
  have hin : meth.name = "<init>" := (name_of_methodNamed B.named B.method).1
  subst hsz
  have hD := hD0.self (sz := s.heap.size)
  generalize hAe : va_A [(so, .inr (7, [.null, .null]))] s.heap.size = A at hD ⊢
  have hA : ∀ q : Nat, s.heap.size ≤ q → A q := fun q h => by rw [← hAe]; exact Or.inr h
  have hS : va_S A s.heap s.heap [] := va_S.rf
  have hP : va_P (dC, dI) vwCl [(so, .inr (7, [.null, .null]))] s.heap := hP
  have hl := lv_entry ([.ref so]) (n := 1) (Nat.le_of_ble_eq_true rfl)
  rw [lg_entry_eq]
  generalize (lg_sl ([.ref so]) ++ List.replicate (1 - (lg_sl ([.ref so])).length) Slot.unset).toArray = ls at hl ⊢
  have hl : lv_has ls 1 [(0, .ref so)] := hl
  refine lv_aload_n hx hb dX7_init_0 rfl (lv_at hl 0 rfl) ?_
  refine W.objInit hx hb hown (hts (.methodLink RX7 3 objectInit) (by decide +kernel)) (hts (.instanceMethod objectInit) (by decide +kernel)) (hts (.code objectInit ⟨#[0xb1]⟩ 1 none) (by decide +kernel)) rfl (by rw [hml]; exact hl.1) rfl dX7_init_1 (Nat.le_of_ble_eq_true rfl) (Nat.le_of_ble_eq_true rfl) ?_
  refine W.eq (g2 := F0 m 4 ls []) rfl ?_
  refine lv_aload_n hx hb dX7_init_4 rfl (lv_at hl 0 rfl) ?_
  refine lv_bipush (v := 21) hx hb dX7_init_5 (by decide) ?_
  refine va_newa (atype := .long) (ty := .long) (a0 := (21, .inr (.inl (fun _ => 0)))) (N' := 21) hx hb (hts (.arrayClass .long) (by decide +kernel)) rfl hK hP hD hS hA (fun _ => rfl) (by decide) (by decide) (Nat.le_of_ble_eq_true rfl) (Nat.le_of_ble_eq_true rfl) (Nat.le_of_ble_eq_true rfl) dX7_init_7 (fun q_1 cA_2 H hK hP hD hS => ?_)
  have hK : va_K (dC, dI) vwCl [(cA_2, .long)] s := hK
  have hP : va_P (dC, dI) vwCl [(so, .inr (7, [.null, .null])), (q_1, .inl (cA_2, 21, .inr (.inl (fun _ => 0))))] H := hP
  have hD : va_D A [(so, .inr (7, [.null, .null])), (q_1, .inl (cA_2, 21, .inr (.inl (fun _ => 0))))] := hD
  refine W.widen (k := 1) (n := 21) (Nat.le_of_ble_eq_true rfl) (Nat.le_of_ble_eq_true rfl) ?_
  refine va_putF (D := (dC, dI)) (ci := 7) (v := .ref q_1) (ty := .array .long) (C := RX7) (T := TX7) (N := 2) hx hb hts iw_k_init_X7_X7 tyX7 tyX7_ok nmX7 hown hK hP hD hS 0 rfl rfl 0 (by decide) (hts (.fieldLink RX7 9 "ThriceCounted$Scale" "weights" "[J") (by decide +kernel)) (fun _ h9 => h9) rfl hin rfl (by decide +kernel) rfl rfl (Nat.le_of_ble_eq_true rfl) dX7_init_9 (fun H locs hP hD hS => ?_)
  have hP : va_P (dC, dI) vwCl [(so, .inr (7, [.ref q_1, .null])), (q_1, .inl (cA_2, 21, .inr (.inl (fun _ => 0))))] H := hP
  have hD : va_D A [(so, .inr (7, [.ref q_1, .null])), (q_1, .inl (cA_2, 21, .inr (.inl (fun _ => 0))))] := hD
  refine lv_aload_n hx hb dX7_init_12 rfl (lv_at hl 0 rfl) ?_
  refine lv_bipush (v := 21) hx hb dX7_init_13 (by decide) ?_
  refine va_newa (atype := .int) (ty := .int) (a0 := (21, .inl (fun _ => 0))) (N' := 21) hx hb (hts (.arrayClass .int) (by decide +kernel)) rfl hK hP hD hS hA (fun _ => rfl) (by decide) (by decide) (Nat.le_of_ble_eq_true rfl) (Nat.le_of_ble_eq_true rfl) (Nat.le_of_ble_eq_true rfl) dX7_init_15 (fun q_3 cA_4 H hK hP hD hS => ?_)
  have hK : va_K (dC, dI) vwCl [(cA_2, .long), (cA_4, .int)] s := hK
  have hP : va_P (dC, dI) vwCl [(so, .inr (7, [.ref q_1, .null])), (q_1, .inl (cA_2, 21, .inr (.inl (fun _ => 0)))), (q_3, .inl (cA_4, 21, .inl (fun _ => 0)))] H := hP
  have hD : va_D A [(so, .inr (7, [.ref q_1, .null])), (q_1, .inl (cA_2, 21, .inr (.inl (fun _ => 0)))), (q_3, .inl (cA_4, 21, .inl (fun _ => 0)))] := hD
  refine W.widen (k := 2) (n := 42) (Nat.le_of_ble_eq_true rfl) (Nat.le_of_ble_eq_true rfl) ?_
  refine va_putF (D := (dC, dI)) (ci := 7) (v := .ref q_3) (ty := .array .int) (C := RX7) (T := TX7) (N := 2) hx hb hts iw_k_init_X7_X7 tyX7 tyX7_ok nmX7 hown hK hP hD hS 0 rfl rfl 1 (by decide) (hts (.fieldLink RX7 15 "ThriceCounted$Scale" "chances" "[I") (by decide +kernel)) (fun _ h9 => h9) rfl hin rfl (by decide +kernel) rfl rfl (Nat.le_of_ble_eq_true rfl) dX7_init_17 (fun H locs hP hD hS => ?_)
  have hP : va_P (dC, dI) vwCl [(so, .inr (7, [.ref q_1, .ref q_3])), (q_1, .inl (cA_2, 21, .inr (.inl (fun _ => 0)))), (q_3, .inl (cA_4, 21, .inl (fun _ => 0)))] H := hP
  have hD : va_D A [(so, .inr (7, [.ref q_1, .ref q_3])), (q_1, .inl (cA_2, 21, .inr (.inl (fun _ => 0)))), (q_3, .inl (cA_4, 21, .inl (fun _ => 0)))] := hD
  refine W.widen (k := 2) (n := 42) (Nat.le_of_ble_eq_true rfl) (Nat.le_of_ble_eq_true rfl) ?_
  exact W.vret hx hb hr (fun t ht hW => ⟨⟨(), rfl, trivial, trivial⟩, hS.F ht⟩) hS.2.2 dX7_init_20
theorem dX2_init_0 : decode cX2_init 0 = .ok (.aload_n 0, 1) := by decide +kernel
theorem dX2_init_1 : decode cX2_init 1 = .ok (.invokespecial 1, 3) := by decide +kernel
theorem dX2_init_4 : decode cX2_init 4 = .ok (.aload_n 0, 1) := by decide +kernel
theorem dX2_init_5 : decode cX2_init 5 = .ok (.lconst 0, 1) := by decide +kernel
theorem dX2_init_6 : decode cX2_init 6 = .ok (.putfield 7, 3) := by decide +kernel
theorem dX2_init_9 : decode cX2_init 9 = .ok (.aload_n 0, 1) := by decide +kernel
theorem dX2_init_10 : decode cX2_init 10 = .ok (.lconst 1, 1) := by decide +kernel
theorem dX2_init_11 : decode cX2_init 11 = .ok (.putfield 13, 3) := by decide +kernel
theorem dX2_init_14 : decode cX2_init 14 = .ok (.return_, 1) := by decide +kernel
set_option maxRecDepth 20000 in
theorem iw_k_init_X2_X2 : ∀ w ∈ wsX20, w ∈ wsX2_init := by decide +kernel
set_option maxHeartbeats 4000000 in
set_option maxRecDepth 100000 in
theorem k_init_X2 (l : Launch) (dC : Nat → ClassId) (dI : Nat → Nat → Nat) (fo : Nat) (sz : Nat) : Met l yX2_init wsX2_init ({ frames := 1, cells := 0, slots := 0, locals := 12 }) (va_Pc [.ref fo] (fun U => U.heap.size = sz ∧ va_P (dC, dI) vwCl [(fo, .inr (2, [.long 0, .long 0]))] U.heap ∧ va_K (dC, dI) vwCl [] U ∧ va_D (fun _ => True) [(fo, .inr (2, [.long 0, .long 0]))])) (va_Qv (fun (_ : Unit) => True) (fun _ t => va_P (dC, dI) vwCl [(fo, .inr (2, [.long 0, .long 1]))] t.heap ∧ va_K (dC, dI) vwCl [] t ∧ va_D (va_A [(fo, .inr (2, [.long 0, .long 0]))] sz) [(fo, .inr (2, [.long 0, .long 1]))]) (va_A [(fo, .inr (2, [.long 0, .long 0]))] sz)) 0 0 (va_A [(fo, .inr (2, [.long 0, .long 0]))] sz) := by
  refine Met.ofW (cc := cX2_init) (maxL := 1) (ret := none) (by decide) rfl ?_
  intro p e s m args below meth c s₁ B hml hv
  obtain ⟨rfl, hsz, hP, hK, hD0⟩ := hv
  have hx := B.exec
  have hb := B.bytes
  have hr := B.returns
  have hts := atoms_spec (ws := wsX2_init) B.pre
  have hown : s.vm.findClass RX2 = some m.cls := findClass_of_methodNamed B.named
  have hlocks := B.notSynchronized
  have hin : meth.name = "<init>" := (name_of_methodNamed B.named B.method).1
  subst hsz
  have hD := hD0.self (sz := s.heap.size)
  generalize hAe : va_A [(fo, .inr (2, [.long 0, .long 0]))] s.heap.size = A at hD ⊢
  have hA : ∀ q : Nat, s.heap.size ≤ q → A q := fun q h => by rw [← hAe]; exact Or.inr h
  have hS : va_S A s.heap s.heap [] := va_S.rf
  have hP : va_P (dC, dI) vwCl [(fo, .inr (2, [.long 0, .long 0]))] s.heap := hP
  have hl := lv_entry ([.ref fo]) (n := 1) (Nat.le_of_ble_eq_true rfl)
  rw [lg_entry_eq]
  generalize (lg_sl ([.ref fo]) ++ List.replicate (1 - (lg_sl ([.ref fo])).length) Slot.unset).toArray = ls at hl ⊢
  have hl : lv_has ls 1 [(0, .ref fo)] := hl
  refine lv_aload_n hx hb dX2_init_0 rfl (lv_at hl 0 rfl) ?_
  refine W.objInit hx hb hown (hts (.methodLink RX2 1 objectInit) (by decide +kernel)) (hts (.instanceMethod objectInit) (by decide +kernel)) (hts (.code objectInit ⟨#[0xb1]⟩ 1 none) (by decide +kernel)) rfl (by rw [hml]; exact hl.1) rfl dX2_init_1 (Nat.le_of_ble_eq_true rfl) (Nat.le_of_ble_eq_true rfl) ?_
  refine W.eq (g2 := F0 m 4 ls []) rfl ?_
  refine lv_aload_n hx hb dX2_init_4 rfl (lv_at hl 0 rfl) ?_
  refine lv_lconst (v := 0) hx hb dX2_init_5 (by decide) ?_
  refine va_put (D := (dC, dI)) (ci := 2) (v := .long 0) (ty := .long) (C := RX2) (T := TX2) (N := 2) hx hb hts iw_k_init_X2_X2 tyX2 tyX2_ok nmX2 hown hK hP hD hS 0 rfl rfl 0 (by decide) (hts (.fieldLink RX2 7 "ThriceCounted$Fraction" "above" "J") (by decide +kernel)) (fun _ h9 => h9) rfl (by decide +kernel) rfl rfl (Nat.le_of_ble_eq_true rfl) dX2_init_6 (fun H locs hP hD hS => ?_)
  have hP : va_P (dC, dI) vwCl [(fo, .inr (2, [.long 0, .long 0]))] H := hP
  have hD : va_D A [(fo, .inr (2, [.long 0, .long 0]))] := hD
  refine lv_aload_n hx hb dX2_init_9 rfl (lv_at hl 0 rfl) ?_
  refine lv_lconst (v := 1) hx hb dX2_init_10 (by decide) ?_
  refine va_put (D := (dC, dI)) (ci := 2) (v := .long 1) (ty := .long) (C := RX2) (T := TX2) (N := 2) hx hb hts iw_k_init_X2_X2 tyX2 tyX2_ok nmX2 hown hK hP hD hS 0 rfl rfl 1 (by decide) (hts (.fieldLink RX2 13 "ThriceCounted$Fraction" "below" "J") (by decide +kernel)) (fun _ h9 => h9) rfl (by decide +kernel) rfl rfl (Nat.le_of_ble_eq_true rfl) dX2_init_11 (fun H locs hP hD hS => ?_)
  have hP : va_P (dC, dI) vwCl [(fo, .inr (2, [.long 0, .long 1]))] H := hP
  have hD : va_D A [(fo, .inr (2, [.long 0, .long 1]))] := hD
  have hP9 := hP.sub (ws' := [(fo, .inr (2, [.long 0, .long 1]))]) [0] rfl
  have hD9 := hD.sub (ws' := [(fo, .inr (2, [.long 0, .long 1]))]) [0] (by decide) rfl
  have hK9 := hK.sub (tys' := []) [] rfl
  exact W.vret hx hb hr (fun t ht hW => ⟨⟨(), rfl, trivial, by rw [ht]; exact hP9, va_K.moved hW.alike hK9, hD9⟩, hS.F ht⟩) hS.2.2 dX2_init_14
set_option maxRecDepth 20000 in
theorem ggX5_init_X0_init : GoodIn wsX5_init wsX0_init := goodIn_r _ [19, 20, 2, 3, 21, 22, 23, 24, 25, 26, 27, 28, 29, 30, 31, 32, 33, 34, 35, 36, 37, 38, 39, 40, 41, 42, 58, 59, 60, 61, 43, 44, 45, 46, 47, 48] (by decide +kernel) (by decide +kernel)
set_option maxRecDepth 20000 in
theorem gX5_init_X0_init : GoodIn wsX5_init (wsX0_init) := ggX5_init_X0_init
theorem dX5_init_0 : decode cX5_init 0 = .ok (.aload_n 0, 1) := by decide +kernel
theorem dX5_init_1 : decode cX5_init 1 = .ok (.invokespecial 3, 3) := by decide +kernel
theorem dX5_init_4 : decode cX5_init 4 = .ok (.aload_n 0, 1) := by decide +kernel
theorem dX5_init_5 : decode cX5_init 5 = .ok (.new 9, 3) := by decide +kernel
theorem dX5_init_8 : decode cX5_init 8 = .ok (.dup, 1) := by decide +kernel
theorem dX5_init_9 : decode cX5_init 9 = .ok (.invokespecial 11, 3) := by decide +kernel
theorem dX5_init_12 : decode cX5_init 12 = .ok (.putfield 12, 3) := by decide +kernel
theorem dX5_init_15 : decode cX5_init 15 = .ok (.aload_n 0, 1) := by decide +kernel
theorem dX5_init_16 : decode cX5_init 16 = .ok (.iconst 0, 1) := by decide +kernel
theorem dX5_init_17 : decode cX5_init 17 = .ok (.newarray .byte, 2) := by decide +kernel
theorem dX5_init_19 : decode cX5_init 19 = .ok (.putfield 18, 3) := by decide +kernel
theorem dX5_init_22 : decode cX5_init 22 = .ok (.aload_n 0, 1) := by decide +kernel
theorem dX5_init_23 : decode cX5_init 23 = .ok (.iconst 0, 1) := by decide +kernel
theorem dX5_init_24 : decode cX5_init 24 = .ok (.putfield 22, 3) := by decide +kernel
theorem dX5_init_27 : decode cX5_init 27 = .ok (.aload_n 0, 1) := by decide +kernel
theorem dX5_init_28 : decode cX5_init 28 = .ok (.iconst 0, 1) := by decide +kernel
theorem dX5_init_29 : decode cX5_init 29 = .ok (.putfield 26, 3) := by decide +kernel
theorem dX5_init_32 : decode cX5_init 32 = .ok (.aload_n 0, 1) := by decide +kernel
theorem dX5_init_33 : decode cX5_init 33 = .ok (.iconst 0, 1) := by decide +kernel
theorem dX5_init_34 : decode cX5_init 34 = .ok (.putfield 29, 3) := by decide +kernel
theorem dX5_init_37 : decode cX5_init 37 = .ok (.aload_n 0, 1) := by decide +kernel
theorem dX5_init_38 : decode cX5_init 38 = .ok (.iconst 0, 1) := by decide +kernel
theorem dX5_init_39 : decode cX5_init 39 = .ok (.putfield 32, 3) := by decide +kernel
theorem dX5_init_42 : decode cX5_init 42 = .ok (.aload_n 0, 1) := by decide +kernel
theorem dX5_init_43 : decode cX5_init 43 = .ok (.iconst 0, 1) := by decide +kernel
theorem dX5_init_44 : decode cX5_init 44 = .ok (.putfield 35, 3) := by decide +kernel
theorem dX5_init_47 : decode cX5_init 47 = .ok (.aload_n 0, 1) := by decide +kernel
theorem dX5_init_48 : decode cX5_init 48 = .ok (.iconst 0, 1) := by decide +kernel
theorem dX5_init_49 : decode cX5_init 49 = .ok (.putfield 38, 3) := by decide +kernel
theorem dX5_init_52 : decode cX5_init 52 = .ok (.aload_n 0, 1) := by decide +kernel
theorem dX5_init_53 : decode cX5_init 53 = .ok (.iconst 0, 1) := by decide +kernel
theorem dX5_init_54 : decode cX5_init 54 = .ok (.putfield 41, 3) := by decide +kernel
theorem dX5_init_57 : decode cX5_init 57 = .ok (.return_, 1) := by decide +kernel
set_option maxRecDepth 20000 in
theorem iw_k_init_X5_X0 : ∀ w ∈ wsX00, w ∈ wsX5_init := by decide +kernel
set_option maxRecDepth 20000 in
theorem iw_k_init_X5_X5 : ∀ w ∈ wsX50, w ∈ wsX5_init := by decide +kernel
set_option maxHeartbeats 4000000 in
set_option maxRecDepth 100000 in
theorem k_init_X5 (l : Launch) (dC : Nat → ClassId) (dI : Nat → Nat → Nat) (rd : Nat) (sz : Nat) : Met l yX5_init wsX5_init ({ frames := 3, cells := 27, slots := 399, locals := 57 }) (va_Pc [.ref rd] (fun U => U.heap.size = sz ∧ va_P (dC, dI) vwCl [(rd, .inr (5, [.null, .null, .int 0, .int 0, .int 0, .int 0, .int 0, .int 0, .int 0]))] U.heap ∧ va_K (dC, dI) vwCl [] U ∧ va_D (fun _ => True) [(rd, .inr (5, [.null, .null, .int 0, .int 0, .int 0, .int 0, .int 0, .int 0, .int 0]))] ∧ tz_N U)) (va_Qv (fun (_ : Unit) => True) (fun _ t => ∃ (bd : Nat) (td : Nat) (rd0 : Nat) (rd1 : Nat) (rd2 : Nat) (rd3 : Nat) (cad0 : Nat) (cad1 : Nat) (cad2 : Nat) (cad3 : Nat) (ead : Nat), va_P (dC, dI) vwCl [(rd, .inr (5, [.ref bd, .ref td, .int 0, .int 0, .int 0, .int 0, .int 0, .int 0, .int 0])), (bd, .inr (0, [.ref rd0, .ref rd1, .ref rd2, .ref rd3, .ref ead, .int 0])), (rd0, .inr (6, [.int 1, .int 5, .ref cad0, .int 0])), (rd1, .inr (6, [.int 4, .int 5, .ref cad1, .int 0])), (rd2, .inr (6, [.int 4, .int 8, .ref cad2, .int 0])), (rd3, .inr (6, [.int 4, .int 6, .ref cad3, .int 0]))] t.heap ∧ va_K (dC, dI) vwCl [] t ∧ va_D (va_A [(rd, .inr (5, [.null, .null, .int 0, .int 0, .int 0, .int 0, .int 0, .int 0, .int 0]))] sz) [(rd, .inr (5, [.ref bd, .ref td, .int 0, .int 0, .int 0, .int 0, .int 0, .int 0, .int 0])), (bd, .inr (0, [.ref rd0, .ref rd1, .ref rd2, .ref rd3, .ref ead, .int 0])), (rd0, .inr (6, [.int 1, .int 5, .ref cad0, .int 0])), (rd1, .inr (6, [.int 4, .int 5, .ref cad1, .int 0])), (rd2, .inr (6, [.int 4, .int 8, .ref cad2, .int 0])), (rd3, .inr (6, [.int 4, .int 6, .ref cad3, .int 0]))]) (va_A [(rd, .inr (5, [.null, .null, .int 0, .int 0, .int 0, .int 0, .int 0, .int 0, .int 0]))] sz)) 27 399 (va_A [(rd, .inr (5, [.null, .null, .int 0, .int 0, .int 0, .int 0, .int 0, .int 0, .int 0]))] sz) := by
  refine Met.ofW (cc := cX5_init) (maxL := 1) (ret := none) (by decide) rfl ?_
  intro p e s m args below meth c s₁ B hml hv
  obtain ⟨rfl, hsz, hP, hK, hD0, hN⟩ := hv
  have hx := B.exec
  have hb := B.bytes
  have hr := B.returns
  have hts := atoms_spec (ws := wsX5_init) B.pre
  have hown : s.vm.findClass RX5 = some m.cls := findClass_of_methodNamed B.named
  have hlocks := B.notSynchronized
  have hin : meth.name = "<init>" := (name_of_methodNamed B.named B.method).1
  subst hsz
  have hD := hD0.self (sz := s.heap.size)
  generalize hAe : va_A [(rd, .inr (5, [.null, .null, .int 0, .int 0, .int 0, .int 0, .int 0, .int 0, .int 0]))] s.heap.size = A at hD ⊢
  have hA : ∀ q : Nat, s.heap.size ≤ q → A q := fun q h => by rw [← hAe]; exact Or.inr h
  have hS : va_S A s.heap s.heap [] := va_S.rf
  have hP : va_P (dC, dI) vwCl [(rd, .inr (5, [.null, .null, .int 0, .int 0, .int 0, .int 0, .int 0, .int 0, .int 0]))] s.heap := hP
  have hl := lv_entry ([.ref rd]) (n := 1) (Nat.le_of_ble_eq_true rfl)
  rw [lg_entry_eq]
  generalize (lg_sl ([.ref rd]) ++ List.replicate (1 - (lg_sl ([.ref rd])).length) Slot.unset).toArray = ls at hl ⊢
  have hl : lv_has ls 1 [(0, .ref rd)] := hl
  refine lv_aload_n hx hb dX5_init_0 rfl (lv_at hl 0 rfl) ?_
  refine W.objInit hx hb hown (hts (.methodLink RX5 3 objectInit) (by decide +kernel)) (hts (.instanceMethod objectInit) (by decide +kernel)) (hts (.code objectInit ⟨#[0xb1]⟩ 1 none) (by decide +kernel)) rfl (by rw [hml]; exact hl.1) rfl dX5_init_1 (Nat.le_of_ble_eq_true rfl) (Nat.le_of_ble_eq_true rfl) ?_
  refine W.eq (g2 := F0 m 4 ls []) rfl ?_
  refine lv_aload_n hx hb dX5_init_4 rfl (lv_at hl 0 rfl) ?_
  refine va_new (ci := 0) (fs := [.null, .null, .null, .null, .null, .int 0]) (C := RX0) (T := TX0) (N := 6) hx hb hts iw_k_init_X5_X0 tyX0 tyX0_ok hown (hts (.classLink RX5 9 RX0) (by decide +kernel)) (hts (.instantiable RX0 6) (by decide +kernel)) (hts (.initialized RX0) (by decide +kernel)) hK hP hD hS hA rfl (fun j hj => by rcases (show j = 0 ∨ j = 1 ∨ j = 2 ∨ j = 3 ∨ j = 4 ∨ j = 5 by omega) with rfl | rfl | rfl | rfl | rfl | rfl <;> rfl) (Nat.le_of_ble_eq_true rfl) (Nat.le_of_ble_eq_true rfl) dX5_init_5 (fun q_1 H hP hD hS => ?_)
  have hP : va_P (dC, dI) vwCl [(rd, .inr (5, [.null, .null, .int 0, .int 0, .int 0, .int 0, .int 0, .int 0, .int 0])), (q_1, .inr (0, [.null, .null, .null, .null, .null, .int 0]))] H := hP
  have hD : va_D A [(rd, .inr (5, [.null, .null, .int 0, .int 0, .int 0, .int 0, .int 0, .int 0, .int 0])), (q_1, .inr (0, [.null, .null, .null, .null, .null, .int 0]))] := hD
  refine W.widen (k := 1) (n := 6) (Nat.le_of_ble_eq_true rfl) (Nat.le_of_ble_eq_true rfl) ?_
  refine lv_dup hx hb dX5_init_8 rfl ?_
  have hPc := hP.sub (ws' := [(q_1, .inr (0, [.null, .null, .null, .null, .null, .int 0]))]) [1] rfl
  have hDc := hD.sub (ws' := [(q_1, .inr (0, [.null, .null, .null, .null, .null, .int 0]))]) [1] (by decide) rfl
  have hKc := hK.sub (tys' := []) [] rfl
  have hFc := va_free (wc := [(q_1, .inr (0, [.null, .null, .null, .null, .null, .int 0]))]) hD hS hA [1] rfl
  refine va_callv (va_runI (As := []) (rest := [.ref q_1, .ref rd]) ⟨hx, hb, hml, hown, hts⟩ (k_binit l dC dI q_1 H.size) (cwI 0 hts gX5_init_X0_init rfl rfl rfl (hts (.initialized RX0) (by decide +kernel)) (hts (.methodLink RX5 11 yX0_init) (by decide +kernel)) (hts (.instanceMethod yX0_init) (by decide +kernel)) rfl (by decide +kernel) ⟨Nat.le_of_ble_eq_true rfl, Nat.le_of_ble_eq_true rfl⟩) ⟨fun a U g mk q => by obtain ⟨q0, q1, qP, qK, qD, qN⟩ := q; exact ⟨q0, q1, qP, va_K.moved (u := U) (U := U.calling g mk a) (Vm.Alike.refl U.vm) qK, qD, tz_N.same (u := U) (U := U.calling g mk a) rfl qN⟩, fun U hU hW => ⟨rfl, by rw [hU], by rw [hU]; exact hPc, va_K.moved hW.alike hKc, hDc.weaken (fun _ _ _ _ => trivial), tz_N.warm hW hN⟩⟩ rfl rfl hl.1 rfl (lv_room (Nat.le_of_ble_eq_true rfl)) dX5_init_9 ⟨Nat.le_of_ble_eq_true rfl, Nat.le_of_ble_eq_true rfl⟩) hS (fun q _ h => hFc q h) hFc (fun u_ t H1 locs ht hvm hw_3 hB hz1 hk1 hS => ?_)
  obtain ⟨r_4, r_5, r_6, r_7, ca_8, ca_9, ca_10, ca_11, cc_12, cc_13, cc_14, cc_15, ea_16, ce_17, fe_18, hP1, hK1, hD1⟩ := hB
  rw [ht] at hP1
  have hK1 := va_K.moved hvm.symm hK1
  obtain ⟨hP, hD⟩ := va_join (wr := [(rd, .inr (5, [.null, .null, .int 0, .int 0, .int 0, .int 0, .int 0, .int 0, .int 0]))]) (w1 := [(q_1, .inr (0, [.ref r_4, .ref r_5, .ref r_6, .ref r_7, .ref ea_16, .int 0])), (r_4, .inr (6, [.int 1, .int 5, .ref ca_8, .int 0])), (ca_8, .inl (cc_12, 5, .inl (fun _ => 0))), (r_5, .inr (6, [.int 4, .int 5, .ref ca_9, .int 0])), (ca_9, .inl (cc_13, 20, .inl (fun _ => 0))), (r_6, .inr (6, [.int 4, .int 8, .ref ca_10, .int 0])), (ca_10, .inl (cc_14, 32, .inl (fun _ => 0))), (r_7, .inr (6, [.int 4, .int 6, .ref ca_11, .int 0])), (ca_11, .inl (cc_15, 24, .inl (fun _ => 0))), (ea_16, .inl (ce_17, 8, .inr (.inr (.inr (.inr fe_18)))))]) hP hD [1] [0] rfl rfl (by decide) (by decide) hk1 hFc hP1 hD1
  have hK := hK.app hK1
  have hK : va_K (dC, dI) vwCl [(cc_12, .int), (cc_13, .int), (cc_14, .int), (cc_15, .int), (ce_17, (.object "ThriceCounted$Rows"))] s := hK
  generalize H1 = H at hP hS ⊢
  have hP : va_P (dC, dI) vwCl [(rd, .inr (5, [.null, .null, .int 0, .int 0, .int 0, .int 0, .int 0, .int 0, .int 0])), (q_1, .inr (0, [.ref r_4, .ref r_5, .ref r_6, .ref r_7, .ref ea_16, .int 0])), (r_4, .inr (6, [.int 1, .int 5, .ref ca_8, .int 0])), (ca_8, .inl (cc_12, 5, .inl (fun _ => 0))), (r_5, .inr (6, [.int 4, .int 5, .ref ca_9, .int 0])), (ca_9, .inl (cc_13, 20, .inl (fun _ => 0))), (r_6, .inr (6, [.int 4, .int 8, .ref ca_10, .int 0])), (ca_10, .inl (cc_14, 32, .inl (fun _ => 0))), (r_7, .inr (6, [.int 4, .int 6, .ref ca_11, .int 0])), (ca_11, .inl (cc_15, 24, .inl (fun _ => 0))), (ea_16, .inl (ce_17, 8, .inr (.inr (.inr (.inr fe_18)))))] H := hP
  have hD : va_D A [(rd, .inr (5, [.null, .null, .int 0, .int 0, .int 0, .int 0, .int 0, .int 0, .int 0])), (q_1, .inr (0, [.ref r_4, .ref r_5, .ref r_6, .ref r_7, .ref ea_16, .int 0])), (r_4, .inr (6, [.int 1, .int 5, .ref ca_8, .int 0])), (ca_8, .inl (cc_12, 5, .inl (fun _ => 0))), (r_5, .inr (6, [.int 4, .int 5, .ref ca_9, .int 0])), (ca_9, .inl (cc_13, 20, .inl (fun _ => 0))), (r_6, .inr (6, [.int 4, .int 8, .ref ca_10, .int 0])), (ca_10, .inl (cc_14, 32, .inl (fun _ => 0))), (r_7, .inr (6, [.int 4, .int 6, .ref ca_11, .int 0])), (ca_11, .inl (cc_15, 24, .inl (fun _ => 0))), (ea_16, .inl (ce_17, 8, .inr (.inr (.inr (.inr fe_18)))))] := hD
  refine W.widen (k := 26) (n := 399) (Nat.le_of_ble_eq_true rfl) (Nat.le_of_ble_eq_true rfl) ?_
  refine va_putF (D := (dC, dI)) (ci := 5) (v := .ref q_1) (ty := .object "ThriceCounted$Bank") (C := RX5) (T := TX5) (N := 9) hx hb hts iw_k_init_X5_X5 tyX5 tyX5_ok nmX5 hown hK hP hD hS 0 rfl rfl 0 (by decide) (hts (.fieldLink RX5 12 "ThriceCounted$Reader" "draft" "LThriceCounted$Bank;") (by decide +kernel)) (fun _ h9 => h9) rfl hin rfl (by decide +kernel) rfl rfl (Nat.le_of_ble_eq_true rfl) dX5_init_12 (fun H locs hP hD hS => ?_)
  have hP : va_P (dC, dI) vwCl [(rd, .inr (5, [.ref q_1, .null, .int 0, .int 0, .int 0, .int 0, .int 0, .int 0, .int 0])), (q_1, .inr (0, [.ref r_4, .ref r_5, .ref r_6, .ref r_7, .ref ea_16, .int 0])), (r_4, .inr (6, [.int 1, .int 5, .ref ca_8, .int 0])), (ca_8, .inl (cc_12, 5, .inl (fun _ => 0))), (r_5, .inr (6, [.int 4, .int 5, .ref ca_9, .int 0])), (ca_9, .inl (cc_13, 20, .inl (fun _ => 0))), (r_6, .inr (6, [.int 4, .int 8, .ref ca_10, .int 0])), (ca_10, .inl (cc_14, 32, .inl (fun _ => 0))), (r_7, .inr (6, [.int 4, .int 6, .ref ca_11, .int 0])), (ca_11, .inl (cc_15, 24, .inl (fun _ => 0))), (ea_16, .inl (ce_17, 8, .inr (.inr (.inr (.inr fe_18)))))] H := hP
  have hD : va_D A [(rd, .inr (5, [.ref q_1, .null, .int 0, .int 0, .int 0, .int 0, .int 0, .int 0, .int 0])), (q_1, .inr (0, [.ref r_4, .ref r_5, .ref r_6, .ref r_7, .ref ea_16, .int 0])), (r_4, .inr (6, [.int 1, .int 5, .ref ca_8, .int 0])), (ca_8, .inl (cc_12, 5, .inl (fun _ => 0))), (r_5, .inr (6, [.int 4, .int 5, .ref ca_9, .int 0])), (ca_9, .inl (cc_13, 20, .inl (fun _ => 0))), (r_6, .inr (6, [.int 4, .int 8, .ref ca_10, .int 0])), (ca_10, .inl (cc_14, 32, .inl (fun _ => 0))), (r_7, .inr (6, [.int 4, .int 6, .ref ca_11, .int 0])), (ca_11, .inl (cc_15, 24, .inl (fun _ => 0))), (ea_16, .inl (ce_17, 8, .inr (.inr (.inr (.inr fe_18)))))] := hD
  refine lv_aload_n hx hb dX5_init_15 rfl (lv_at hl 0 rfl) ?_
  refine lv_iconst (v := 0) hx hb dX5_init_16 (by decide) ?_
  refine va_newa (atype := .byte) (ty := .byte) (a0 := (0, .inl (fun _ => 0))) (N' := 0) hx hb (hts (.arrayClass .byte) (by decide +kernel)) rfl hK hP hD hS hA (fun _ => rfl) (by decide) (by decide) (Nat.le_of_ble_eq_true rfl) (Nat.le_of_ble_eq_true rfl) (Nat.le_of_ble_eq_true rfl) dX5_init_17 (fun q_19 cA_20 H hK hP hD hS => ?_)
  have hK : va_K (dC, dI) vwCl [(cc_12, .int), (cc_13, .int), (cc_14, .int), (cc_15, .int), (ce_17, (.object "ThriceCounted$Rows")), (cA_20, .byte)] s := hK
  have hP : va_P (dC, dI) vwCl [(rd, .inr (5, [.ref q_1, .null, .int 0, .int 0, .int 0, .int 0, .int 0, .int 0, .int 0])), (q_1, .inr (0, [.ref r_4, .ref r_5, .ref r_6, .ref r_7, .ref ea_16, .int 0])), (r_4, .inr (6, [.int 1, .int 5, .ref ca_8, .int 0])), (ca_8, .inl (cc_12, 5, .inl (fun _ => 0))), (r_5, .inr (6, [.int 4, .int 5, .ref ca_9, .int 0])), (ca_9, .inl (cc_13, 20, .inl (fun _ => 0))), (r_6, .inr (6, [.int 4, .int 8, .ref ca_10, .int 0])), (ca_10, .inl (cc_14, 32, .inl (fun _ => 0))), (r_7, .inr (6, [.int 4, .int 6, .ref ca_11, .int 0])), (ca_11, .inl (cc_15, 24, .inl (fun _ => 0))), (ea_16, .inl (ce_17, 8, .inr (.inr (.inr (.inr fe_18))))), (q_19, .inl (cA_20, 0, .inl (fun _ => 0)))] H := hP
  have hD : va_D A [(rd, .inr (5, [.ref q_1, .null, .int 0, .int 0, .int 0, .int 0, .int 0, .int 0, .int 0])), (q_1, .inr (0, [.ref r_4, .ref r_5, .ref r_6, .ref r_7, .ref ea_16, .int 0])), (r_4, .inr (6, [.int 1, .int 5, .ref ca_8, .int 0])), (ca_8, .inl (cc_12, 5, .inl (fun _ => 0))), (r_5, .inr (6, [.int 4, .int 5, .ref ca_9, .int 0])), (ca_9, .inl (cc_13, 20, .inl (fun _ => 0))), (r_6, .inr (6, [.int 4, .int 8, .ref ca_10, .int 0])), (ca_10, .inl (cc_14, 32, .inl (fun _ => 0))), (r_7, .inr (6, [.int 4, .int 6, .ref ca_11, .int 0])), (ca_11, .inl (cc_15, 24, .inl (fun _ => 0))), (ea_16, .inl (ce_17, 8, .inr (.inr (.inr (.inr fe_18))))), (q_19, .inl (cA_20, 0, .inl (fun _ => 0)))] := hD
  refine W.widen (k := 27) (n := 399) (Nat.le_of_ble_eq_true rfl) (Nat.le_of_ble_eq_true rfl) ?_
  refine va_put (D := (dC, dI)) (ci := 5) (v := .ref q_19) (ty := .array .byte) (C := RX5) (T := TX5) (N := 9) hx hb hts iw_k_init_X5_X5 tyX5 tyX5_ok nmX5 hown hK hP hD hS 0 rfl rfl 1 (by decide) (hts (.fieldLink RX5 18 "ThriceCounted$Reader" "text" "[B") (by decide +kernel)) (fun _ h9 => h9) rfl (by decide +kernel) rfl rfl (Nat.le_of_ble_eq_true rfl) dX5_init_19 (fun H locs hP hD hS => ?_)
  have hP : va_P (dC, dI) vwCl [(rd, .inr (5, [.ref q_1, .ref q_19, .int 0, .int 0, .int 0, .int 0, .int 0, .int 0, .int 0])), (q_1, .inr (0, [.ref r_4, .ref r_5, .ref r_6, .ref r_7, .ref ea_16, .int 0])), (r_4, .inr (6, [.int 1, .int 5, .ref ca_8, .int 0])), (ca_8, .inl (cc_12, 5, .inl (fun _ => 0))), (r_5, .inr (6, [.int 4, .int 5, .ref ca_9, .int 0])), (ca_9, .inl (cc_13, 20, .inl (fun _ => 0))), (r_6, .inr (6, [.int 4, .int 8, .ref ca_10, .int 0])), (ca_10, .inl (cc_14, 32, .inl (fun _ => 0))), (r_7, .inr (6, [.int 4, .int 6, .ref ca_11, .int 0])), (ca_11, .inl (cc_15, 24, .inl (fun _ => 0))), (ea_16, .inl (ce_17, 8, .inr (.inr (.inr (.inr fe_18))))), (q_19, .inl (cA_20, 0, .inl (fun _ => 0)))] H := hP
  have hD : va_D A [(rd, .inr (5, [.ref q_1, .ref q_19, .int 0, .int 0, .int 0, .int 0, .int 0, .int 0, .int 0])), (q_1, .inr (0, [.ref r_4, .ref r_5, .ref r_6, .ref r_7, .ref ea_16, .int 0])), (r_4, .inr (6, [.int 1, .int 5, .ref ca_8, .int 0])), (ca_8, .inl (cc_12, 5, .inl (fun _ => 0))), (r_5, .inr (6, [.int 4, .int 5, .ref ca_9, .int 0])), (ca_9, .inl (cc_13, 20, .inl (fun _ => 0))), (r_6, .inr (6, [.int 4, .int 8, .ref ca_10, .int 0])), (ca_10, .inl (cc_14, 32, .inl (fun _ => 0))), (r_7, .inr (6, [.int 4, .int 6, .ref ca_11, .int 0])), (ca_11, .inl (cc_15, 24, .inl (fun _ => 0))), (ea_16, .inl (ce_17, 8, .inr (.inr (.inr (.inr fe_18))))), (q_19, .inl (cA_20, 0, .inl (fun _ => 0)))] := hD
  refine lv_aload_n hx hb dX5_init_22 rfl (lv_at hl 0 rfl) ?_
  refine lv_iconst (v := 0) hx hb dX5_init_23 (by decide) ?_
  refine va_put (D := (dC, dI)) (ci := 5) (v := .int 0) (ty := .int) (C := RX5) (T := TX5) (N := 9) hx hb hts iw_k_init_X5_X5 tyX5 tyX5_ok nmX5 hown hK hP hD hS 0 rfl rfl 2 (by decide) (hts (.fieldLink RX5 22 "ThriceCounted$Reader" "length" "I") (by decide +kernel)) (fun _ h9 => h9) rfl (by decide +kernel) rfl rfl (Nat.le_of_ble_eq_true rfl) dX5_init_24 (fun H locs hP hD hS => ?_)
  have hP : va_P (dC, dI) vwCl [(rd, .inr (5, [.ref q_1, .ref q_19, .int 0, .int 0, .int 0, .int 0, .int 0, .int 0, .int 0])), (q_1, .inr (0, [.ref r_4, .ref r_5, .ref r_6, .ref r_7, .ref ea_16, .int 0])), (r_4, .inr (6, [.int 1, .int 5, .ref ca_8, .int 0])), (ca_8, .inl (cc_12, 5, .inl (fun _ => 0))), (r_5, .inr (6, [.int 4, .int 5, .ref ca_9, .int 0])), (ca_9, .inl (cc_13, 20, .inl (fun _ => 0))), (r_6, .inr (6, [.int 4, .int 8, .ref ca_10, .int 0])), (ca_10, .inl (cc_14, 32, .inl (fun _ => 0))), (r_7, .inr (6, [.int 4, .int 6, .ref ca_11, .int 0])), (ca_11, .inl (cc_15, 24, .inl (fun _ => 0))), (ea_16, .inl (ce_17, 8, .inr (.inr (.inr (.inr fe_18))))), (q_19, .inl (cA_20, 0, .inl (fun _ => 0)))] H := hP
  have hD : va_D A [(rd, .inr (5, [.ref q_1, .ref q_19, .int 0, .int 0, .int 0, .int 0, .int 0, .int 0, .int 0])), (q_1, .inr (0, [.ref r_4, .ref r_5, .ref r_6, .ref r_7, .ref ea_16, .int 0])), (r_4, .inr (6, [.int 1, .int 5, .ref ca_8, .int 0])), (ca_8, .inl (cc_12, 5, .inl (fun _ => 0))), (r_5, .inr (6, [.int 4, .int 5, .ref ca_9, .int 0])), (ca_9, .inl (cc_13, 20, .inl (fun _ => 0))), (r_6, .inr (6, [.int 4, .int 8, .ref ca_10, .int 0])), (ca_10, .inl (cc_14, 32, .inl (fun _ => 0))), (r_7, .inr (6, [.int 4, .int 6, .ref ca_11, .int 0])), (ca_11, .inl (cc_15, 24, .inl (fun _ => 0))), (ea_16, .inl (ce_17, 8, .inr (.inr (.inr (.inr fe_18))))), (q_19, .inl (cA_20, 0, .inl (fun _ => 0)))] := hD
  refine lv_aload_n hx hb dX5_init_27 rfl (lv_at hl 0 rfl) ?_
  refine lv_iconst (v := 0) hx hb dX5_init_28 (by decide) ?_
  refine va_put (D := (dC, dI)) (ci := 5) (v := .int 0) (ty := .int) (C := RX5) (T := TX5) (N := 9) hx hb hts iw_k_init_X5_X5 tyX5 tyX5_ok nmX5 hown hK hP hD hS 0 rfl rfl 3 (by decide) (hts (.fieldLink RX5 26 "ThriceCounted$Reader" "place" "I") (by decide +kernel)) (fun _ h9 => h9) rfl (by decide +kernel) rfl rfl (Nat.le_of_ble_eq_true rfl) dX5_init_29 (fun H locs hP hD hS => ?_)
  have hP : va_P (dC, dI) vwCl [(rd, .inr (5, [.ref q_1, .ref q_19, .int 0, .int 0, .int 0, .int 0, .int 0, .int 0, .int 0])), (q_1, .inr (0, [.ref r_4, .ref r_5, .ref r_6, .ref r_7, .ref ea_16, .int 0])), (r_4, .inr (6, [.int 1, .int 5, .ref ca_8, .int 0])), (ca_8, .inl (cc_12, 5, .inl (fun _ => 0))), (r_5, .inr (6, [.int 4, .int 5, .ref ca_9, .int 0])), (ca_9, .inl (cc_13, 20, .inl (fun _ => 0))), (r_6, .inr (6, [.int 4, .int 8, .ref ca_10, .int 0])), (ca_10, .inl (cc_14, 32, .inl (fun _ => 0))), (r_7, .inr (6, [.int 4, .int 6, .ref ca_11, .int 0])), (ca_11, .inl (cc_15, 24, .inl (fun _ => 0))), (ea_16, .inl (ce_17, 8, .inr (.inr (.inr (.inr fe_18))))), (q_19, .inl (cA_20, 0, .inl (fun _ => 0)))] H := hP
  have hD : va_D A [(rd, .inr (5, [.ref q_1, .ref q_19, .int 0, .int 0, .int 0, .int 0, .int 0, .int 0, .int 0])), (q_1, .inr (0, [.ref r_4, .ref r_5, .ref r_6, .ref r_7, .ref ea_16, .int 0])), (r_4, .inr (6, [.int 1, .int 5, .ref ca_8, .int 0])), (ca_8, .inl (cc_12, 5, .inl (fun _ => 0))), (r_5, .inr (6, [.int 4, .int 5, .ref ca_9, .int 0])), (ca_9, .inl (cc_13, 20, .inl (fun _ => 0))), (r_6, .inr (6, [.int 4, .int 8, .ref ca_10, .int 0])), (ca_10, .inl (cc_14, 32, .inl (fun _ => 0))), (r_7, .inr (6, [.int 4, .int 6, .ref ca_11, .int 0])), (ca_11, .inl (cc_15, 24, .inl (fun _ => 0))), (ea_16, .inl (ce_17, 8, .inr (.inr (.inr (.inr fe_18))))), (q_19, .inl (cA_20, 0, .inl (fun _ => 0)))] := hD
  refine lv_aload_n hx hb dX5_init_32 rfl (lv_at hl 0 rfl) ?_
  refine lv_iconst (v := 0) hx hb dX5_init_33 (by decide) ?_
  refine va_put (D := (dC, dI)) (ci := 5) (v := .int 0) (ty := .int) (C := RX5) (T := TX5) (N := 9) hx hb hts iw_k_init_X5_X5 tyX5 tyX5_ok nmX5 hown hK hP hD hS 0 rfl rfl 4 (by decide) (hts (.fieldLink RX5 29 "ThriceCounted$Reader" "kind" "I") (by decide +kernel)) (fun _ h9 => h9) rfl (by decide +kernel) rfl rfl (Nat.le_of_ble_eq_true rfl) dX5_init_34 (fun H locs hP hD hS => ?_)
  have hP : va_P (dC, dI) vwCl [(rd, .inr (5, [.ref q_1, .ref q_19, .int 0, .int 0, .int 0, .int 0, .int 0, .int 0, .int 0])), (q_1, .inr (0, [.ref r_4, .ref r_5, .ref r_6, .ref r_7, .ref ea_16, .int 0])), (r_4, .inr (6, [.int 1, .int 5, .ref ca_8, .int 0])), (ca_8, .inl (cc_12, 5, .inl (fun _ => 0))), (r_5, .inr (6, [.int 4, .int 5, .ref ca_9, .int 0])), (ca_9, .inl (cc_13, 20, .inl (fun _ => 0))), (r_6, .inr (6, [.int 4, .int 8, .ref ca_10, .int 0])), (ca_10, .inl (cc_14, 32, .inl (fun _ => 0))), (r_7, .inr (6, [.int 4, .int 6, .ref ca_11, .int 0])), (ca_11, .inl (cc_15, 24, .inl (fun _ => 0))), (ea_16, .inl (ce_17, 8, .inr (.inr (.inr (.inr fe_18))))), (q_19, .inl (cA_20, 0, .inl (fun _ => 0)))] H := hP
  have hD : va_D A [(rd, .inr (5, [.ref q_1, .ref q_19, .int 0, .int 0, .int 0, .int 0, .int 0, .int 0, .int 0])), (q_1, .inr (0, [.ref r_4, .ref r_5, .ref r_6, .ref r_7, .ref ea_16, .int 0])), (r_4, .inr (6, [.int 1, .int 5, .ref ca_8, .int 0])), (ca_8, .inl (cc_12, 5, .inl (fun _ => 0))), (r_5, .inr (6, [.int 4, .int 5, .ref ca_9, .int 0])), (ca_9, .inl (cc_13, 20, .inl (fun _ => 0))), (r_6, .inr (6, [.int 4, .int 8, .ref ca_10, .int 0])), (ca_10, .inl (cc_14, 32, .inl (fun _ => 0))), (r_7, .inr (6, [.int 4, .int 6, .ref ca_11, .int 0])), (ca_11, .inl (cc_15, 24, .inl (fun _ => 0))), (ea_16, .inl (ce_17, 8, .inr (.inr (.inr (.inr fe_18))))), (q_19, .inl (cA_20, 0, .inl (fun _ => 0)))] := hD
  refine lv_aload_n hx hb dX5_init_37 rfl (lv_at hl 0 rfl) ?_
  refine lv_iconst (v := 0) hx hb dX5_init_38 (by decide) ?_
  refine va_put (D := (dC, dI)) (ci := 5) (v := .int 0) (ty := .int) (C := RX5) (T := TX5) (N := 9) hx hb hts iw_k_init_X5_X5 tyX5 tyX5_ok nmX5 hown hK hP hD hS 0 rfl rfl 5 (by decide) (hts (.fieldLink RX5 32 "ThriceCounted$Reader" "start" "I") (by decide +kernel)) (fun _ h9 => h9) rfl (by decide +kernel) rfl rfl (Nat.le_of_ble_eq_true rfl) dX5_init_39 (fun H locs hP hD hS => ?_)
  have hP : va_P (dC, dI) vwCl [(rd, .inr (5, [.ref q_1, .ref q_19, .int 0, .int 0, .int 0, .int 0, .int 0, .int 0, .int 0])), (q_1, .inr (0, [.ref r_4, .ref r_5, .ref r_6, .ref r_7, .ref ea_16, .int 0])), (r_4, .inr (6, [.int 1, .int 5, .ref ca_8, .int 0])), (ca_8, .inl (cc_12, 5, .inl (fun _ => 0))), (r_5, .inr (6, [.int 4, .int 5, .ref ca_9, .int 0])), (ca_9, .inl (cc_13, 20, .inl (fun _ => 0))), (r_6, .inr (6, [.int 4, .int 8, .ref ca_10, .int 0])), (ca_10, .inl (cc_14, 32, .inl (fun _ => 0))), (r_7, .inr (6, [.int 4, .int 6, .ref ca_11, .int 0])), (ca_11, .inl (cc_15, 24, .inl (fun _ => 0))), (ea_16, .inl (ce_17, 8, .inr (.inr (.inr (.inr fe_18))))), (q_19, .inl (cA_20, 0, .inl (fun _ => 0)))] H := hP
  have hD : va_D A [(rd, .inr (5, [.ref q_1, .ref q_19, .int 0, .int 0, .int 0, .int 0, .int 0, .int 0, .int 0])), (q_1, .inr (0, [.ref r_4, .ref r_5, .ref r_6, .ref r_7, .ref ea_16, .int 0])), (r_4, .inr (6, [.int 1, .int 5, .ref ca_8, .int 0])), (ca_8, .inl (cc_12, 5, .inl (fun _ => 0))), (r_5, .inr (6, [.int 4, .int 5, .ref ca_9, .int 0])), (ca_9, .inl (cc_13, 20, .inl (fun _ => 0))), (r_6, .inr (6, [.int 4, .int 8, .ref ca_10, .int 0])), (ca_10, .inl (cc_14, 32, .inl (fun _ => 0))), (r_7, .inr (6, [.int 4, .int 6, .ref ca_11, .int 0])), (ca_11, .inl (cc_15, 24, .inl (fun _ => 0))), (ea_16, .inl (ce_17, 8, .inr (.inr (.inr (.inr fe_18))))), (q_19, .inl (cA_20, 0, .inl (fun _ => 0)))] := hD
  refine lv_aload_n hx hb dX5_init_42 rfl (lv_at hl 0 rfl) ?_
  refine lv_iconst (v := 0) hx hb dX5_init_43 (by decide) ?_
  refine va_put (D := (dC, dI)) (ci := 5) (v := .int 0) (ty := .int) (C := RX5) (T := TX5) (N := 9) hx hb hts iw_k_init_X5_X5 tyX5 tyX5_ok nmX5 hown hK hP hD hS 0 rfl rfl 6 (by decide) (hts (.fieldLink RX5 35 "ThriceCounted$Reader" "value" "I") (by decide +kernel)) (fun _ h9 => h9) rfl (by decide +kernel) rfl rfl (Nat.le_of_ble_eq_true rfl) dX5_init_44 (fun H locs hP hD hS => ?_)
  have hP : va_P (dC, dI) vwCl [(rd, .inr (5, [.ref q_1, .ref q_19, .int 0, .int 0, .int 0, .int 0, .int 0, .int 0, .int 0])), (q_1, .inr (0, [.ref r_4, .ref r_5, .ref r_6, .ref r_7, .ref ea_16, .int 0])), (r_4, .inr (6, [.int 1, .int 5, .ref ca_8, .int 0])), (ca_8, .inl (cc_12, 5, .inl (fun _ => 0))), (r_5, .inr (6, [.int 4, .int 5, .ref ca_9, .int 0])), (ca_9, .inl (cc_13, 20, .inl (fun _ => 0))), (r_6, .inr (6, [.int 4, .int 8, .ref ca_10, .int 0])), (ca_10, .inl (cc_14, 32, .inl (fun _ => 0))), (r_7, .inr (6, [.int 4, .int 6, .ref ca_11, .int 0])), (ca_11, .inl (cc_15, 24, .inl (fun _ => 0))), (ea_16, .inl (ce_17, 8, .inr (.inr (.inr (.inr fe_18))))), (q_19, .inl (cA_20, 0, .inl (fun _ => 0)))] H := hP
  have hD : va_D A [(rd, .inr (5, [.ref q_1, .ref q_19, .int 0, .int 0, .int 0, .int 0, .int 0, .int 0, .int 0])), (q_1, .inr (0, [.ref r_4, .ref r_5, .ref r_6, .ref r_7, .ref ea_16, .int 0])), (r_4, .inr (6, [.int 1, .int 5, .ref ca_8, .int 0])), (ca_8, .inl (cc_12, 5, .inl (fun _ => 0))), (r_5, .inr (6, [.int 4, .int 5, .ref ca_9, .int 0])), (ca_9, .inl (cc_13, 20, .inl (fun _ => 0))), (r_6, .inr (6, [.int 4, .int 8, .ref ca_10, .int 0])), (ca_10, .inl (cc_14, 32, .inl (fun _ => 0))), (r_7, .inr (6, [.int 4, .int 6, .ref ca_11, .int 0])), (ca_11, .inl (cc_15, 24, .inl (fun _ => 0))), (ea_16, .inl (ce_17, 8, .inr (.inr (.inr (.inr fe_18))))), (q_19, .inl (cA_20, 0, .inl (fun _ => 0)))] := hD
  refine lv_aload_n hx hb dX5_init_47 rfl (lv_at hl 0 rfl) ?_
  refine lv_iconst (v := 0) hx hb dX5_init_48 (by decide) ?_
  refine va_put (D := (dC, dI)) (ci := 5) (v := .int 0) (ty := .int) (C := RX5) (T := TX5) (N := 9) hx hb hts iw_k_init_X5_X5 tyX5 tyX5_ok nmX5 hown hK hP hD hS 0 rfl rfl 7 (by decide) (hts (.fieldLink RX5 38 "ThriceCounted$Reader" "items" "I") (by decide +kernel)) (fun _ h9 => h9) rfl (by decide +kernel) rfl rfl (Nat.le_of_ble_eq_true rfl) dX5_init_49 (fun H locs hP hD hS => ?_)
  have hP : va_P (dC, dI) vwCl [(rd, .inr (5, [.ref q_1, .ref q_19, .int 0, .int 0, .int 0, .int 0, .int 0, .int 0, .int 0])), (q_1, .inr (0, [.ref r_4, .ref r_5, .ref r_6, .ref r_7, .ref ea_16, .int 0])), (r_4, .inr (6, [.int 1, .int 5, .ref ca_8, .int 0])), (ca_8, .inl (cc_12, 5, .inl (fun _ => 0))), (r_5, .inr (6, [.int 4, .int 5, .ref ca_9, .int 0])), (ca_9, .inl (cc_13, 20, .inl (fun _ => 0))), (r_6, .inr (6, [.int 4, .int 8, .ref ca_10, .int 0])), (ca_10, .inl (cc_14, 32, .inl (fun _ => 0))), (r_7, .inr (6, [.int 4, .int 6, .ref ca_11, .int 0])), (ca_11, .inl (cc_15, 24, .inl (fun _ => 0))), (ea_16, .inl (ce_17, 8, .inr (.inr (.inr (.inr fe_18))))), (q_19, .inl (cA_20, 0, .inl (fun _ => 0)))] H := hP
  have hD : va_D A [(rd, .inr (5, [.ref q_1, .ref q_19, .int 0, .int 0, .int 0, .int 0, .int 0, .int 0, .int 0])), (q_1, .inr (0, [.ref r_4, .ref r_5, .ref r_6, .ref r_7, .ref ea_16, .int 0])), (r_4, .inr (6, [.int 1, .int 5, .ref ca_8, .int 0])), (ca_8, .inl (cc_12, 5, .inl (fun _ => 0))), (r_5, .inr (6, [.int 4, .int 5, .ref ca_9, .int 0])), (ca_9, .inl (cc_13, 20, .inl (fun _ => 0))), (r_6, .inr (6, [.int 4, .int 8, .ref ca_10, .int 0])), (ca_10, .inl (cc_14, 32, .inl (fun _ => 0))), (r_7, .inr (6, [.int 4, .int 6, .ref ca_11, .int 0])), (ca_11, .inl (cc_15, 24, .inl (fun _ => 0))), (ea_16, .inl (ce_17, 8, .inr (.inr (.inr (.inr fe_18))))), (q_19, .inl (cA_20, 0, .inl (fun _ => 0)))] := hD
  refine lv_aload_n hx hb dX5_init_52 rfl (lv_at hl 0 rfl) ?_
  refine lv_iconst (v := 0) hx hb dX5_init_53 (by decide) ?_
  refine va_put (D := (dC, dI)) (ci := 5) (v := .int 0) (ty := .boolean) (C := RX5) (T := TX5) (N := 9) hx hb hts iw_k_init_X5_X5 tyX5 tyX5_ok nmX5 hown hK hP hD hS 0 rfl rfl 8 (by decide) (hts (.fieldLink RX5 41 "ThriceCounted$Reader" "faulty" "Z") (by decide +kernel)) (fun _ h9 => h9) rfl (by decide +kernel) rfl rfl (Nat.le_of_ble_eq_true rfl) dX5_init_54 (fun H locs hP hD hS => ?_)
  have hP : va_P (dC, dI) vwCl [(rd, .inr (5, [.ref q_1, .ref q_19, .int 0, .int 0, .int 0, .int 0, .int 0, .int 0, .int 0])), (q_1, .inr (0, [.ref r_4, .ref r_5, .ref r_6, .ref r_7, .ref ea_16, .int 0])), (r_4, .inr (6, [.int 1, .int 5, .ref ca_8, .int 0])), (ca_8, .inl (cc_12, 5, .inl (fun _ => 0))), (r_5, .inr (6, [.int 4, .int 5, .ref ca_9, .int 0])), (ca_9, .inl (cc_13, 20, .inl (fun _ => 0))), (r_6, .inr (6, [.int 4, .int 8, .ref ca_10, .int 0])), (ca_10, .inl (cc_14, 32, .inl (fun _ => 0))), (r_7, .inr (6, [.int 4, .int 6, .ref ca_11, .int 0])), (ca_11, .inl (cc_15, 24, .inl (fun _ => 0))), (ea_16, .inl (ce_17, 8, .inr (.inr (.inr (.inr fe_18))))), (q_19, .inl (cA_20, 0, .inl (fun _ => 0)))] H := hP
  have hD : va_D A [(rd, .inr (5, [.ref q_1, .ref q_19, .int 0, .int 0, .int 0, .int 0, .int 0, .int 0, .int 0])), (q_1, .inr (0, [.ref r_4, .ref r_5, .ref r_6, .ref r_7, .ref ea_16, .int 0])), (r_4, .inr (6, [.int 1, .int 5, .ref ca_8, .int 0])), (ca_8, .inl (cc_12, 5, .inl (fun _ => 0))), (r_5, .inr (6, [.int 4, .int 5, .ref ca_9, .int 0])), (ca_9, .inl (cc_13, 20, .inl (fun _ => 0))), (r_6, .inr (6, [.int 4, .int 8, .ref ca_10, .int 0])), (ca_10, .inl (cc_14, 32, .inl (fun _ => 0))), (r_7, .inr (6, [.int 4, .int 6, .ref ca_11, .int 0])), (ca_11, .inl (cc_15, 24, .inl (fun _ => 0))), (ea_16, .inl (ce_17, 8, .inr (.inr (.inr (.inr fe_18))))), (q_19, .inl (cA_20, 0, .inl (fun _ => 0)))] := hD
  have hP9 := hP.sub (ws' := [(rd, .inr (5, [.ref q_1, .ref q_19, .int 0, .int 0, .int 0, .int 0, .int 0, .int 0, .int 0])), (q_1, .inr (0, [.ref r_4, .ref r_5, .ref r_6, .ref r_7, .ref ea_16, .int 0])), (r_4, .inr (6, [.int 1, .int 5, .ref ca_8, .int 0])), (r_5, .inr (6, [.int 4, .int 5, .ref ca_9, .int 0])), (r_6, .inr (6, [.int 4, .int 8, .ref ca_10, .int 0])), (r_7, .inr (6, [.int 4, .int 6, .ref ca_11, .int 0]))]) [0, 1, 2, 4, 6, 8] rfl
  have hD9 := hD.sub (ws' := [(rd, .inr (5, [.ref q_1, .ref q_19, .int 0, .int 0, .int 0, .int 0, .int 0, .int 0, .int 0])), (q_1, .inr (0, [.ref r_4, .ref r_5, .ref r_6, .ref r_7, .ref ea_16, .int 0])), (r_4, .inr (6, [.int 1, .int 5, .ref ca_8, .int 0])), (r_5, .inr (6, [.int 4, .int 5, .ref ca_9, .int 0])), (r_6, .inr (6, [.int 4, .int 8, .ref ca_10, .int 0])), (r_7, .inr (6, [.int 4, .int 6, .ref ca_11, .int 0]))]) [0, 1, 2, 4, 6, 8] (by decide) rfl
  have hK9 := hK.sub (tys' := []) [] rfl
  refine W.widen (k := 27) (n := 399) (Nat.le_of_ble_eq_true rfl) (Nat.le_of_ble_eq_true rfl) ?_
  exact W.vret hx hb hr (fun t ht hW => ⟨⟨(), rfl, trivial, q_1, q_19, r_4, r_5, r_6, r_7, ca_8, ca_9, ca_10, ca_11, ea_16, by rw [ht]; exact hP9, va_K.moved hW.alike hK9, hD9⟩, hS.F ht⟩) hS.2.2 dX5_init_57
