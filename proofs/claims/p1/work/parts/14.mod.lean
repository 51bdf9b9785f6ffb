theorem dX12_init_0 : decode cX12_init 0 = .ok (.aload_n 0, 1) := by decide +kernel
theorem dX12_init_1 : decode cX12_init 1 = .ok (.invokespecial 1, 3) := by decide +kernel
theorem dX12_init_4 : decode cX12_init 4 = .ok (.aload_n 0, 1) := by decide +kernel
theorem dX12_init_5 : decode cX12_init 5 = .ok (.sipush 350, 3) := by decide +kernel
theorem dX12_init_8 : decode cX12_init 8 = .ok (.newarray .int, 2) := by decide +kernel
theorem dX12_init_10 : decode cX12_init 10 = .ok (.putfield 7, 3) := by decide +kernel
theorem dX12_init_13 : decode cX12_init 13 = .ok (.aload_n 0, 1) := by decide +kernel
theorem dX12_init_14 : decode cX12_init 14 = .ok (.sipush 700, 3) := by decide +kernel
theorem dX12_init_17 : decode cX12_init 17 = .ok (.newarray .int, 2) := by decide +kernel
theorem dX12_init_19 : decode cX12_init 19 = .ok (.putfield 13, 3) := by decide +kernel
theorem dX12_init_22 : decode cX12_init 22 = .ok (.aload_n 0, 1) := by decide +kernel
theorem dX12_init_23 : decode cX12_init 23 = .ok (.iconst 2, 1) := by decide +kernel
theorem dX12_init_24 : decode cX12_init 24 = .ok (.newarray .boolean, 2) := by decide +kernel
theorem dX12_init_26 : decode cX12_init 26 = .ok (.putfield 16, 3) := by decide +kernel
theorem dX12_init_29 : decode cX12_init 29 = .ok (.aload_n 0, 1) := by decide +kernel
theorem dX12_init_30 : decode cX12_init 30 = .ok (.iconst 3, 1) := by decide +kernel
theorem dX12_init_31 : decode cX12_init 31 = .ok (.newarray .int, 2) := by decide +kernel
theorem dX12_init_33 : decode cX12_init 33 = .ok (.putfield 20, 3) := by decide +kernel
theorem dX12_init_36 : decode cX12_init 36 = .ok (.aload_n 0, 1) := by decide +kernel
theorem dX12_init_37 : decode cX12_init 37 = .ok (.lconst 1, 1) := by decide +kernel
theorem dX12_init_38 : decode cX12_init 38 = .ok (.putfield 23, 3) := by decide +kernel
theorem dX12_init_41 : decode cX12_init 41 = .ok (.aload_n 0, 1) := by decide +kernel
theorem dX12_init_42 : decode cX12_init 42 = .ok (.bipush 21, 2) := by decide +kernel
theorem dX12_init_44 : decode cX12_init 44 = .ok (.newarray .long, 2) := by decide +kernel
theorem dX12_init_46 : decode cX12_init 46 = .ok (.putfield 27, 3) := by decide +kernel
theorem dX12_init_49 : decode cX12_init 49 = .ok (.aload_n 0, 1) := by decide +kernel
theorem dX12_init_50 : decode cX12_init 50 = .ok (.bipush 6, 2) := by decide +kernel
theorem dX12_init_52 : decode cX12_init 52 = .ok (.newarray .int, 2) := by decide +kernel
theorem dX12_init_54 : decode cX12_init 54 = .ok (.putfield 31, 3) := by decide +kernel
theorem dX12_init_57 : decode cX12_init 57 = .ok (.aload_n 0, 1) := by decide +kernel
theorem dX12_init_58 : decode cX12_init 58 = .ok (.bipush 6, 2) := by decide +kernel
theorem dX12_init_60 : decode cX12_init 60 = .ok (.newarray .int, 2) := by decide +kernel
theorem dX12_init_62 : decode cX12_init 62 = .ok (.putfield 34, 3) := by decide +kernel
theorem dX12_init_65 : decode cX12_init 65 = .ok (.aload_n 0, 1) := by decide +kernel
theorem dX12_init_66 : decode cX12_init 66 = .ok (.bipush 6, 2) := by decide +kernel
theorem dX12_init_68 : decode cX12_init 68 = .ok (.newarray .int, 2) := by decide +kernel
theorem dX12_init_70 : decode cX12_init 70 = .ok (.putfield 37, 3) := by decide +kernel
theorem dX12_init_73 : decode cX12_init 73 = .ok (.aload_n 0, 1) := by decide +kernel
theorem dX12_init_74 : decode cX12_init 74 = .ok (.sipush 150, 3) := by decide +kernel
theorem dX12_init_77 : decode cX12_init 77 = .ok (.newarray .int, 2) := by decide +kernel
theorem dX12_init_79 : decode cX12_init 79 = .ok (.putfield 40, 3) := by decide +kernel
theorem dX12_init_82 : decode cX12_init 82 = .ok (.aload_n 0, 1) := by decide +kernel
theorem dX12_init_83 : decode cX12_init 83 = .ok (.bipush 86, 2) := by decide +kernel
theorem dX12_init_85 : decode cX12_init 85 = .ok (.newarray .int, 2) := by decide +kernel
theorem dX12_init_87 : decode cX12_init 87 = .ok (.putfield 43, 3) := by decide +kernel
theorem dX12_init_90 : decode cX12_init 90 = .ok (.aload_n 0, 1) := by decide +kernel
theorem dX12_init_91 : decode cX12_init 91 = .ok (.iconst 4, 1) := by decide +kernel
theorem dX12_init_92 : decode cX12_init 92 = .ok (.newarray .int, 2) := by decide +kernel
theorem dX12_init_94 : decode cX12_init 94 = .ok (.putfield 46, 3) := by decide +kernel
theorem dX12_init_97 : decode cX12_init 97 = .ok (.return_, 1) := by decide +kernel
set_option maxRecDepth 20000 in
theorem iw_k_minit_X12 : ∀ w ∈ wsX120, w ∈ wsX12_init := by decide +kernel
set_option maxHeartbeats 4000000 in
set_option maxRecDepth 100000 in
theorem k_minit (l : Launch) (dC : Nat → ClassId) (dI : Nat → Nat → Nat) (mo : Nat) (sz : Nat) : Met l yX12_init wsX12_init ({ frames := 1, cells := 11, slots := 1334, locals := 12 }) (va_Pc [.ref mo] (fun U => U.heap.size = sz ∧ va_P (dC, dI) vwCl [(mo, .inr (12, [.null, .null, .null, .null, .long 0, .long 0, .null, .long 0, .int 0, .int 0, .long 0, .long 0, .null, .null, .null, .int 0, .null, .int 0, .int 0, .int 0, .int 0, .int 0, .null, .null]))] U.heap ∧ va_K (dC, dI) vwCl [] U ∧ va_D (fun _ => True) [(mo, .inr (12, [.null, .null, .null, .null, .long 0, .long 0, .null, .long 0, .int 0, .int 0, .long 0, .long 0, .null, .null, .null, .int 0, .null, .int 0, .int 0, .int 0, .int 0, .int 0, .null, .null]))])) (va_Qv (fun (_ : Unit) => True) (fun _ t => ∃ (nw : Nat) (kp : Nat) (ik : Nat) (mr : Nat) (mw : Nat) (mq : Nat) (mz : Nat) (my : Nat) (mb : Nat) (mx : Nat) (mv : Nat) (cn : ClassId) (cp : ClassId) (ck : ClassId) (cm : ClassId) (cb : ClassId), va_P (dC, dI) vwCl [(mo, .inr (12, [.ref nw, .ref kp, .ref ik, .ref mr, .long 0, .long 1, .ref mw, .long 0, .int 0, .int 0, .long 0, .long 0, .ref mq, .ref mz, .ref my, .int 0, .ref mb, .int 0, .int 0, .int 0, .int 0, .int 0, .ref mx, .ref mv])), (nw, .inl (cn, 350, .inl (fun _ => 0))), (kp, .inl (cp, 700, .inl (fun _ => 0))), (ik, .inl (ck, 2, .inl (fun _ => 0))), (mr, .inl (cm, 3, .inl (fun _ => 0))), (mb, .inl (cb, 150, .inl (fun _ => 0)))] t.heap ∧ va_K (dC, dI) vwCl [(cn, .int), (cp, .int), (ck, .boolean), (cm, .int), (cb, .int)] t ∧ va_D (va_A [(mo, .inr (12, [.null, .null, .null, .null, .long 0, .long 0, .null, .long 0, .int 0, .int 0, .long 0, .long 0, .null, .null, .null, .int 0, .null, .int 0, .int 0, .int 0, .int 0, .int 0, .null, .null]))] sz) [(mo, .inr (12, [.ref nw, .ref kp, .ref ik, .ref mr, .long 0, .long 1, .ref mw, .long 0, .int 0, .int 0, .long 0, .long 0, .ref mq, .ref mz, .ref my, .int 0, .ref mb, .int 0, .int 0, .int 0, .int 0, .int 0, .ref mx, .ref mv])), (nw, .inl (cn, 350, .inl (fun _ => 0))), (kp, .inl (cp, 700, .inl (fun _ => 0))), (ik, .inl (ck, 2, .inl (fun _ => 0))), (mr, .inl (cm, 3, .inl (fun _ => 0))), (mb, .inl (cb, 150, .inl (fun _ => 0)))]) (va_A [(mo, .inr (12, [.null, .null, .null, .null, .long 0, .long 0, .null, .long 0, .int 0, .int 0, .long 0, .long 0, .null, .null, .null, .int 0, .null, .int 0, .int 0, .int 0, .int 0, .int 0, .null, .null]))] sz)) 11 1334 (va_A [(mo, .inr (12, [.null, .null, .null, .null, .long 0, .long 0, .null, .long 0, .int 0, .int 0, .long 0, .long 0, .null, .null, .null, .int 0, .null, .int 0, .int 0, .int 0, .int 0, .int 0, .null, .null]))] sz) := by
  refine Met.ofW (cc := cX12_init) (maxL := 1) (ret := none) (by decide) rfl ?_
  intro p e s m args below meth c s₁ B hml hv
  obtain ⟨rfl, hsz, hP, hK, hD0⟩ := hv
  have hx := B.exec
  have hb := B.bytes
  have hr := B.returns
  have hts := atoms_spec (ws := wsX12_init) B.pre
  have hown : s.vm.findClass RX12 = some m.cls := findClass_of_methodNamed B.named
  have hlocks := B.notSynchronized
  have hin : meth.name = "<init>" := (name_of_methodNamed B.named B.method).1
  subst hsz
  have hD := hD0.self (sz := s.heap.size)
  generalize hAe : va_A [(mo, .inr (12, [.null, .null, .null, .null, .long 0, .long 0, .null, .long 0, .int 0, .int 0, .long 0, .long 0, .null, .null, .null, .int 0, .null, .int 0, .int 0, .int 0, .int 0, .int 0, .null, .null]))] s.heap.size = A at hD ⊢
  have hA : ∀ q : Nat, s.heap.size ≤ q → A q := fun q h => by rw [← hAe]; exact Or.inr h
  have hS : va_S A s.heap s.heap [] := va_S.rf
  have hP : va_P (dC, dI) vwCl [(mo, .inr (12, [.null, .null, .null, .null, .long 0, .long 0, .null, .long 0, .int 0, .int 0, .long 0, .long 0, .null, .null, .null, .int 0, .null, .int 0, .int 0, .int 0, .int 0, .int 0, .null, .null]))] s.heap := hP
  have hl := lv_entry ([.ref mo]) (n := 1) (Nat.le_of_ble_eq_true rfl)
  rw [lg_entry_eq]
  generalize (lg_sl ([.ref mo]) ++ List.replicate (1 - (lg_sl ([.ref mo])).length) Slot.unset).toArray = ls at hl ⊢
  have hl : lv_has ls 1 [(0, .ref mo)] := hl
  refine lv_aload_n hx hb dX12_init_0 rfl (lv_at hl 0 rfl) ?_
  refine W.objInit hx hb hown (hts (.methodLink RX12 1 objectInit) (by decide +kernel)) (hts (.instanceMethod objectInit) (by decide +kernel)) (hts (.code objectInit ⟨#[0xb1]⟩ 1 none) (by decide +kernel)) rfl (by rw [hml]; exact hl.1) rfl dX12_init_1 (Nat.le_of_ble_eq_true rfl) (Nat.le_of_ble_eq_true rfl) ?_
  refine W.eq (g2 := F0 m 4 ls []) rfl ?_
  refine lv_aload_n hx hb dX12_init_4 rfl (lv_at hl 0 rfl) ?_
  refine lv_sipush (v := 350) hx hb dX12_init_5 (by decide) ?_
  refine va_newa (atype := .int) (ty := .int) (a0 := (350, .inl (fun _ => 0))) (N' := 350) hx hb (hts (.arrayClass .int) (by decide +kernel)) rfl hK hP hD hS hA (fun _ => rfl) (by decide) (by decide) (Nat.le_of_ble_eq_true rfl) (Nat.le_of_ble_eq_true rfl) (Nat.le_of_ble_eq_true rfl) dX12_init_8 (fun q_1 cA_2 H hK hP hD hS => ?_)
  have hK : va_K (dC, dI) vwCl [(cA_2, .int)] s := hK
  have hP : va_P (dC, dI) vwCl [(mo, .inr (12, [.null, .null, .null, .null, .long 0, .long 0, .null, .long 0, .int 0, .int 0, .long 0, .long 0, .null, .null, .null, .int 0, .null, .int 0, .int 0, .int 0, .int 0, .int 0, .null, .null])), (q_1, .inl (cA_2, 350, .inl (fun _ => 0)))] H := hP
  have hD : va_D A [(mo, .inr (12, [.null, .null, .null, .null, .long 0, .long 0, .null, .long 0, .int 0, .int 0, .long 0, .long 0, .null, .null, .null, .int 0, .null, .int 0, .int 0, .int 0, .int 0, .int 0, .null, .null])), (q_1, .inl (cA_2, 350, .inl (fun _ => 0)))] := hD
  refine W.widen (k := 1) (n := 350) (Nat.le_of_ble_eq_true rfl) (Nat.le_of_ble_eq_true rfl) ?_
  refine va_putF (D := (dC, dI)) (ci := 12) (v := .ref q_1) (ty := .array .int) (C := RX12) (T := TX12) (N := 24) hx hb hts iw_k_minit_X12 tyX12 tyX12_ok nmX12 hown hK hP hD hS 0 rfl rfl 0 (by decide) (hts (.fieldLink RX12 7 "ThriceCountedModel" "now" "[I") (by decide +kernel)) (fun _ h9 => h9) rfl hin rfl (by decide +kernel) rfl rfl (Nat.le_of_ble_eq_true rfl) dX12_init_10 (fun H locs hP hD hS => ?_)
  have hP : va_P (dC, dI) vwCl [(mo, .inr (12, [.ref q_1, .null, .null, .null, .long 0, .long 0, .null, .long 0, .int 0, .int 0, .long 0, .long 0, .null, .null, .null, .int 0, .null, .int 0, .int 0, .int 0, .int 0, .int 0, .null, .null])), (q_1, .inl (cA_2, 350, .inl (fun _ => 0)))] H := hP
  have hD : va_D A [(mo, .inr (12, [.ref q_1, .null, .null, .null, .long 0, .long 0, .null, .long 0, .int 0, .int 0, .long 0, .long 0, .null, .null, .null, .int 0, .null, .int 0, .int 0, .int 0, .int 0, .int 0, .null, .null])), (q_1, .inl (cA_2, 350, .inl (fun _ => 0)))] := hD
  refine lv_aload_n hx hb dX12_init_13 rfl (lv_at hl 0 rfl) ?_
  refine lv_sipush (v := 700) hx hb dX12_init_14 (by decide) ?_
  refine va_newa (atype := .int) (ty := .int) (a0 := (700, .inl (fun _ => 0))) (N' := 700) hx hb (hts (.arrayClass .int) (by decide +kernel)) rfl hK hP hD hS hA (fun _ => rfl) (by decide) (by decide) (Nat.le_of_ble_eq_true rfl) (Nat.le_of_ble_eq_true rfl) (Nat.le_of_ble_eq_true rfl) dX12_init_17 (fun q_3 cA_4 H hK hP hD hS => ?_)
  have hK : va_K (dC, dI) vwCl [(cA_2, .int), (cA_4, .int)] s := hK
  have hP : va_P (dC, dI) vwCl [(mo, .inr (12, [.ref q_1, .null, .null, .null, .long 0, .long 0, .null, .long 0, .int 0, .int 0, .long 0, .long 0, .null, .null, .null, .int 0, .null, .int 0, .int 0, .int 0, .int 0, .int 0, .null, .null])), (q_1, .inl (cA_2, 350, .inl (fun _ => 0))), (q_3, .inl (cA_4, 700, .inl (fun _ => 0)))] H := hP
  have hD : va_D A [(mo, .inr (12, [.ref q_1, .null, .null, .null, .long 0, .long 0, .null, .long 0, .int 0, .int 0, .long 0, .long 0, .null, .null, .null, .int 0, .null, .int 0, .int 0, .int 0, .int 0, .int 0, .null, .null])), (q_1, .inl (cA_2, 350, .inl (fun _ => 0))), (q_3, .inl (cA_4, 700, .inl (fun _ => 0)))] := hD
  refine W.widen (k := 2) (n := 1050) (Nat.le_of_ble_eq_true rfl) (Nat.le_of_ble_eq_true rfl) ?_
  refine va_putF (D := (dC, dI)) (ci := 12) (v := .ref q_3) (ty := .array .int) (C := RX12) (T := TX12) (N := 24) hx hb hts iw_k_minit_X12 tyX12 tyX12_ok nmX12 hown hK hP hD hS 0 rfl rfl 1 (by decide) (hts (.fieldLink RX12 13 "ThriceCountedModel" "kept" "[I") (by decide +kernel)) (fun _ h9 => h9) rfl hin rfl (by decide +kernel) rfl rfl (Nat.le_of_ble_eq_true rfl) dX12_init_19 (fun H locs hP hD hS => ?_)
  have hP : va_P (dC, dI) vwCl [(mo, .inr (12, [.ref q_1, .ref q_3, .null, .null, .long 0, .long 0, .null, .long 0, .int 0, .int 0, .long 0, .long 0, .null, .null, .null, .int 0, .null, .int 0, .int 0, .int 0, .int 0, .int 0, .null, .null])), (q_1, .inl (cA_2, 350, .inl (fun _ => 0))), (q_3, .inl (cA_4, 700, .inl (fun _ => 0)))] H := hP
  have hD : va_D A [(mo, .inr (12, [.ref q_1, .ref q_3, .null, .null, .long 0, .long 0, .null, .long 0, .int 0, .int 0, .long 0, .long 0, .null, .null, .null, .int 0, .null, .int 0, .int 0, .int 0, .int 0, .int 0, .null, .null])), (q_1, .inl (cA_2, 350, .inl (fun _ => 0))), (q_3, .inl (cA_4, 700, .inl (fun _ => 0)))] := hD
  refine lv_aload_n hx hb dX12_init_22 rfl (lv_at hl 0 rfl) ?_
  refine lv_iconst (v := 2) hx hb dX12_init_23 (by decide) ?_
  refine va_newa (atype := .boolean) (ty := .boolean) (a0 := (2, .inl (fun _ => 0))) (N' := 2) hx hb (hts (.arrayClass .boolean) (by decide +kernel)) rfl hK hP hD hS hA (fun _ => rfl) (by decide) (by decide) (Nat.le_of_ble_eq_true rfl) (Nat.le_of_ble_eq_true rfl) (Nat.le_of_ble_eq_true rfl) dX12_init_24 (fun q_5 cA_6 H hK hP hD hS => ?_)
  have hK : va_K (dC, dI) vwCl [(cA_2, .int), (cA_4, .int), (cA_6, .boolean)] s := hK
  have hP : va_P (dC, dI) vwCl [(mo, .inr (12, [.ref q_1, .ref q_3, .null, .null, .long 0, .long 0, .null, .long 0, .int 0, .int 0, .long 0, .long 0, .null, .null, .null, .int 0, .null, .int 0, .int 0, .int 0, .int 0, .int 0, .null, .null])), (q_1, .inl (cA_2, 350, .inl (fun _ => 0))), (q_3, .inl (cA_4, 700, .inl (fun _ => 0))), (q_5, .inl (cA_6, 2, .inl (fun _ => 0)))] H := hP
  have hD : va_D A [(mo, .inr (12, [.ref q_1, .ref q_3, .null, .null, .long 0, .long 0, .null, .long 0, .int 0, .int 0, .long 0, .long 0, .null, .null, .null, .int 0, .null, .int 0, .int 0, .int 0, .int 0, .int 0, .null, .null])), (q_1, .inl (cA_2, 350, .inl (fun _ => 0))), (q_3, .inl (cA_4, 700, .inl (fun _ => 0))), (q_5, .inl (cA_6, 2, .inl (fun _ => 0)))] := hD
  refine W.widen (k := 3) (n := 1052) (Nat.le_of_ble_eq_true rfl) (Nat.le_of_ble_eq_true rfl) ?_
  refine va_putF (D := (dC, dI)) (ci := 12) (v := .ref q_5) (ty := .array .boolean) (C := RX12) (T := TX12) (N := 24) hx hb hts iw_k_minit_X12 tyX12 tyX12_ok nmX12 hown hK hP hD hS 0 rfl rfl 2 (by decide) (hts (.fieldLink RX12 16 "ThriceCountedModel" "isKept" "[Z") (by decide +kernel)) (fun _ h9 => h9) rfl hin rfl (by decide +kernel) rfl rfl (Nat.le_of_ble_eq_true rfl) dX12_init_26 (fun H locs hP hD hS => ?_)
  have hP : va_P (dC, dI) vwCl [(mo, .inr (12, [.ref q_1, .ref q_3, .ref q_5, .null, .long 0, .long 0, .null, .long 0, .int 0, .int 0, .long 0, .long 0, .null, .null, .null, .int 0, .null, .int 0, .int 0, .int 0, .int 0, .int 0, .null, .null])), (q_1, .inl (cA_2, 350, .inl (fun _ => 0))), (q_3, .inl (cA_4, 700, .inl (fun _ => 0))), (q_5, .inl (cA_6, 2, .inl (fun _ => 0)))] H := hP
  have hD : va_D A [(mo, .inr (12, [.ref q_1, .ref q_3, .ref q_5, .null, .long 0, .long 0, .null, .long 0, .int 0, .int 0, .long 0, .long 0, .null, .null, .null, .int 0, .null, .int 0, .int 0, .int 0, .int 0, .int 0, .null, .null])), (q_1, .inl (cA_2, 350, .inl (fun _ => 0))), (q_3, .inl (cA_4, 700, .inl (fun _ => 0))), (q_5, .inl (cA_6, 2, .inl (fun _ => 0)))] := hD
  refine lv_aload_n hx hb dX12_init_29 rfl (lv_at hl 0 rfl) ?_
  refine lv_iconst (v := 3) hx hb dX12_init_30 (by decide) ?_
  refine va_newa (atype := .int) (ty := .int) (a0 := (3, .inl (fun _ => 0))) (N' := 3) hx hb (hts (.arrayClass .int) (by decide +kernel)) rfl hK hP hD hS hA (fun _ => rfl) (by decide) (by decide) (Nat.le_of_ble_eq_true rfl) (Nat.le_of_ble_eq_true rfl) (Nat.le_of_ble_eq_true rfl) dX12_init_31 (fun q_7 cA_8 H hK hP hD hS => ?_)
  have hK : va_K (dC, dI) vwCl [(cA_2, .int), (cA_4, .int), (cA_6, .boolean), (cA_8, .int)] s := hK
  have hP : va_P (dC, dI) vwCl [(mo, .inr (12, [.ref q_1, .ref q_3, .ref q_5, .null, .long 0, .long 0, .null, .long 0, .int 0, .int 0, .long 0, .long 0, .null, .null, .null, .int 0, .null, .int 0, .int 0, .int 0, .int 0, .int 0, .null, .null])), (q_1, .inl (cA_2, 350, .inl (fun _ => 0))), (q_3, .inl (cA_4, 700, .inl (fun _ => 0))), (q_5, .inl (cA_6, 2, .inl (fun _ => 0))), (q_7, .inl (cA_8, 3, .inl (fun _ => 0)))] H := hP
  have hD : va_D A [(mo, .inr (12, [.ref q_1, .ref q_3, .ref q_5, .null, .long 0, .long 0, .null, .long 0, .int 0, .int 0, .long 0, .long 0, .null, .null, .null, .int 0, .null, .int 0, .int 0, .int 0, .int 0, .int 0, .null, .null])), (q_1, .inl (cA_2, 350, .inl (fun _ => 0))), (q_3, .inl (cA_4, 700, .inl (fun _ => 0))), (q_5, .inl (cA_6, 2, .inl (fun _ => 0))), (q_7, .inl (cA_8, 3, .inl (fun _ => 0)))] := hD
  refine W.widen (k := 4) (n := 1055) (Nat.le_of_ble_eq_true rfl) (Nat.le_of_ble_eq_true rfl) ?_
  refine va_putF (D := (dC, dI)) (ci := 12) (v := .ref q_7) (ty := .array .int) (C := RX12) (T := TX12) (N := 24) hx hb hts iw_k_minit_X12 tyX12 tyX12_ok nmX12 hown hK hP hD hS 0 rfl rfl 3 (by decide) (hts (.fieldLink RX12 20 "ThriceCountedModel" "refused" "[I") (by decide +kernel)) (fun _ h9 => h9) rfl hin rfl (by decide +kernel) rfl rfl (Nat.le_of_ble_eq_true rfl) dX12_init_33 (fun H locs hP hD hS => ?_)
  have hP : va_P (dC, dI) vwCl [(mo, .inr (12, [.ref q_1, .ref q_3, .ref q_5, .ref q_7, .long 0, .long 0, .null, .long 0, .int 0, .int 0, .long 0, .long 0, .null, .null, .null, .int 0, .null, .int 0, .int 0, .int 0, .int 0, .int 0, .null, .null])), (q_1, .inl (cA_2, 350, .inl (fun _ => 0))), (q_3, .inl (cA_4, 700, .inl (fun _ => 0))), (q_5, .inl (cA_6, 2, .inl (fun _ => 0))), (q_7, .inl (cA_8, 3, .inl (fun _ => 0)))] H := hP
  have hD : va_D A [(mo, .inr (12, [.ref q_1, .ref q_3, .ref q_5, .ref q_7, .long 0, .long 0, .null, .long 0, .int 0, .int 0, .long 0, .long 0, .null, .null, .null, .int 0, .null, .int 0, .int 0, .int 0, .int 0, .int 0, .null, .null])), (q_1, .inl (cA_2, 350, .inl (fun _ => 0))), (q_3, .inl (cA_4, 700, .inl (fun _ => 0))), (q_5, .inl (cA_6, 2, .inl (fun _ => 0))), (q_7, .inl (cA_8, 3, .inl (fun _ => 0)))] := hD
  refine lv_aload_n hx hb dX12_init_36 rfl (lv_at hl 0 rfl) ?_
  refine lv_lconst (v := 1) hx hb dX12_init_37 (by decide) ?_
  refine va_put (D := (dC, dI)) (ci := 12) (v := .long 1) (ty := .long) (C := RX12) (T := TX12) (N := 24) hx hb hts iw_k_minit_X12 tyX12 tyX12_ok nmX12 hown hK hP hD hS 0 rfl rfl 5 (by decide) (hts (.fieldLink RX12 23 "ThriceCountedModel" "below" "J") (by decide +kernel)) (fun _ h9 => h9) rfl (by decide +kernel) rfl rfl (Nat.le_of_ble_eq_true rfl) dX12_init_38 (fun H locs hP hD hS => ?_)
  have hP : va_P (dC, dI) vwCl [(mo, .inr (12, [.ref q_1, .ref q_3, .ref q_5, .ref q_7, .long 0, .long 1, .null, .long 0, .int 0, .int 0, .long 0, .long 0, .null, .null, .null, .int 0, .null, .int 0, .int 0, .int 0, .int 0, .int 0, .null, .null])), (q_1, .inl (cA_2, 350, .inl (fun _ => 0))), (q_3, .inl (cA_4, 700, .inl (fun _ => 0))), (q_5, .inl (cA_6, 2, .inl (fun _ => 0))), (q_7, .inl (cA_8, 3, .inl (fun _ => 0)))] H := hP
  have hD : va_D A [(mo, .inr (12, [.ref q_1, .ref q_3, .ref q_5, .ref q_7, .long 0, .long 1, .null, .long 0, .int 0, .int 0, .long 0, .long 0, .null, .null, .null, .int 0, .null, .int 0, .int 0, .int 0, .int 0, .int 0, .null, .null])), (q_1, .inl (cA_2, 350, .inl (fun _ => 0))), (q_3, .inl (cA_4, 700, .inl (fun _ => 0))), (q_5, .inl (cA_6, 2, .inl (fun _ => 0))), (q_7, .inl (cA_8, 3, .inl (fun _ => 0)))] := hD
  refine lv_aload_n hx hb dX12_init_41 rfl (lv_at hl 0 rfl) ?_
  refine lv_bipush (v := 21) hx hb dX12_init_42 (by decide) ?_
  refine va_newa (atype := .long) (ty := .long) (a0 := (21, .inr (.inl (fun _ => 0)))) (N' := 21) hx hb (hts (.arrayClass .long) (by decide +kernel)) rfl hK hP hD hS hA (fun _ => rfl) (by decide) (by decide) (Nat.le_of_ble_eq_true rfl) (Nat.le_of_ble_eq_true rfl) (Nat.le_of_ble_eq_true rfl) dX12_init_44 (fun q_9 cA_10 H hK hP hD hS => ?_)
  have hK : va_K (dC, dI) vwCl [(cA_2, .int), (cA_4, .int), (cA_6, .boolean), (cA_8, .int), (cA_10, .long)] s := hK
  have hP : va_P (dC, dI) vwCl [(mo, .inr (12, [.ref q_1, .ref q_3, .ref q_5, .ref q_7, .long 0, .long 1, .null, .long 0, .int 0, .int 0, .long 0, .long 0, .null, .null, .null, .int 0, .null, .int 0, .int 0, .int 0, .int 0, .int 0, .null, .null])), (q_1, .inl (cA_2, 350, .inl (fun _ => 0))), (q_3, .inl (cA_4, 700, .inl (fun _ => 0))), (q_5, .inl (cA_6, 2, .inl (fun _ => 0))), (q_7, .inl (cA_8, 3, .inl (fun _ => 0))), (q_9, .inl (cA_10, 21, .inr (.inl (fun _ => 0))))] H := hP
  have hD : va_D A [(mo, .inr (12, [.ref q_1, .ref q_3, .ref q_5, .ref q_7, .long 0, .long 1, .null, .long 0, .int 0, .int 0, .long 0, .long 0, .null, .null, .null, .int 0, .null, .int 0, .int 0, .int 0, .int 0, .int 0, .null, .null])), (q_1, .inl (cA_2, 350, .inl (fun _ => 0))), (q_3, .inl (cA_4, 700, .inl (fun _ => 0))), (q_5, .inl (cA_6, 2, .inl (fun _ => 0))), (q_7, .inl (cA_8, 3, .inl (fun _ => 0))), (q_9, .inl (cA_10, 21, .inr (.inl (fun _ => 0))))] := hD
  refine W.widen (k := 5) (n := 1076) (Nat.le_of_ble_eq_true rfl) (Nat.le_of_ble_eq_true rfl) ?_
  refine va_putF (D := (dC, dI)) (ci := 12) (v := .ref q_9) (ty := .array .long) (C := RX12) (T := TX12) (N := 24) hx hb hts iw_k_minit_X12 tyX12 tyX12_ok nmX12 hown hK hP hD hS 0 rfl rfl 6 (by decide) (hts (.fieldLink RX12 27 "ThriceCountedModel" "weights" "[J") (by decide +kernel)) (fun _ h9 => h9) rfl hin rfl (by decide +kernel) rfl rfl (Nat.le_of_ble_eq_true rfl) dX12_init_46 (fun H locs hP hD hS => ?_)
  have hP : va_P (dC, dI) vwCl [(mo, .inr (12, [.ref q_1, .ref q_3, .ref q_5, .ref q_7, .long 0, .long 1, .ref q_9, .long 0, .int 0, .int 0, .long 0, .long 0, .null, .null, .null, .int 0, .null, .int 0, .int 0, .int 0, .int 0, .int 0, .null, .null])), (q_1, .inl (cA_2, 350, .inl (fun _ => 0))), (q_3, .inl (cA_4, 700, .inl (fun _ => 0))), (q_5, .inl (cA_6, 2, .inl (fun _ => 0))), (q_7, .inl (cA_8, 3, .inl (fun _ => 0))), (q_9, .inl (cA_10, 21, .inr (.inl (fun _ => 0))))] H := hP
  have hD : va_D A [(mo, .inr (12, [.ref q_1, .ref q_3, .ref q_5, .ref q_7, .long 0, .long 1, .ref q_9, .long 0, .int 0, .int 0, .long 0, .long 0, .null, .null, .null, .int 0, .null, .int 0, .int 0, .int 0, .int 0, .int 0, .null, .null])), (q_1, .inl (cA_2, 350, .inl (fun _ => 0))), (q_3, .inl (cA_4, 700, .inl (fun _ => 0))), (q_5, .inl (cA_6, 2, .inl (fun _ => 0))), (q_7, .inl (cA_8, 3, .inl (fun _ => 0))), (q_9, .inl (cA_10, 21, .inr (.inl (fun _ => 0))))] := hD
  refine lv_aload_n hx hb dX12_init_49 rfl (lv_at hl 0 rfl) ?_
  refine lv_bipush (v := 6) hx hb dX12_init_50 (by decide) ?_
  refine va_newa (atype := .int) (ty := .int) (a0 := (6, .inl (fun _ => 0))) (N' := 6) hx hb (hts (.arrayClass .int) (by decide +kernel)) rfl hK hP hD hS hA (fun _ => rfl) (by decide) (by decide) (Nat.le_of_ble_eq_true rfl) (Nat.le_of_ble_eq_true rfl) (Nat.le_of_ble_eq_true rfl) dX12_init_52 (fun q_11 cA_12 H hK hP hD hS => ?_)
  have hK : va_K (dC, dI) vwCl [(cA_2, .int), (cA_4, .int), (cA_6, .boolean), (cA_8, .int), (cA_10, .long), (cA_12, .int)] s := hK
  have hP : va_P (dC, dI) vwCl [(mo, .inr (12, [.ref q_1, .ref q_3, .ref q_5, .ref q_7, .long 0, .long 1, .ref q_9, .long 0, .int 0, .int 0, .long 0, .long 0, .null, .null, .null, .int 0, .null, .int 0, .int 0, .int 0, .int 0, .int 0, .null, .null])), (q_1, .inl (cA_2, 350, .inl (fun _ => 0))), (q_3, .inl (cA_4, 700, .inl (fun _ => 0))), (q_5, .inl (cA_6, 2, .inl (fun _ => 0))), (q_7, .inl (cA_8, 3, .inl (fun _ => 0))), (q_9, .inl (cA_10, 21, .inr (.inl (fun _ => 0)))), (q_11, .inl (cA_12, 6, .inl (fun _ => 0)))] H := hP
  have hD : va_D A [(mo, .inr (12, [.ref q_1, .ref q_3, .ref q_5, .ref q_7, .long 0, .long 1, .ref q_9, .long 0, .int 0, .int 0, .long 0, .long 0, .null, .null, .null, .int 0, .null, .int 0, .int 0, .int 0, .int 0, .int 0, .null, .null])), (q_1, .inl (cA_2, 350, .inl (fun _ => 0))), (q_3, .inl (cA_4, 700, .inl (fun _ => 0))), (q_5, .inl (cA_6, 2, .inl (fun _ => 0))), (q_7, .inl (cA_8, 3, .inl (fun _ => 0))), (q_9, .inl (cA_10, 21, .inr (.inl (fun _ => 0)))), (q_11, .inl (cA_12, 6, .inl (fun _ => 0)))] := hD
  refine W.widen (k := 6) (n := 1082) (Nat.le_of_ble_eq_true rfl) (Nat.le_of_ble_eq_true rfl) ?_
  refine va_putF (D := (dC, dI)) (ci := 12) (v := .ref q_11) (ty := .array .int) (C := RX12) (T := TX12) (N := 24) hx hb hts iw_k_minit_X12 tyX12 tyX12_ok nmX12 hown hK hP hD hS 0 rfl rfl 12 (by decide) (hts (.fieldLink RX12 31 "ThriceCountedModel" "sought" "[I") (by decide +kernel)) (fun _ h9 => h9) rfl hin rfl (by decide +kernel) rfl rfl (Nat.le_of_ble_eq_true rfl) dX12_init_54 (fun H locs hP hD hS => ?_)
  have hP : va_P (dC, dI) vwCl [(mo, .inr (12, [.ref q_1, .ref q_3, .ref q_5, .ref q_7, .long 0, .long 1, .ref q_9, .long 0, .int 0, .int 0, .long 0, .long 0, .ref q_11, .null, .null, .int 0, .null, .int 0, .int 0, .int 0, .int 0, .int 0, .null, .null])), (q_1, .inl (cA_2, 350, .inl (fun _ => 0))), (q_3, .inl (cA_4, 700, .inl (fun _ => 0))), (q_5, .inl (cA_6, 2, .inl (fun _ => 0))), (q_7, .inl (cA_8, 3, .inl (fun _ => 0))), (q_9, .inl (cA_10, 21, .inr (.inl (fun _ => 0)))), (q_11, .inl (cA_12, 6, .inl (fun _ => 0)))] H := hP
  have hD : va_D A [(mo, .inr (12, [.ref q_1, .ref q_3, .ref q_5, .ref q_7, .long 0, .long 1, .ref q_9, .long 0, .int 0, .int 0, .long 0, .long 0, .ref q_11, .null, .null, .int 0, .null, .int 0, .int 0, .int 0, .int 0, .int 0, .null, .null])), (q_1, .inl (cA_2, 350, .inl (fun _ => 0))), (q_3, .inl (cA_4, 700, .inl (fun _ => 0))), (q_5, .inl (cA_6, 2, .inl (fun _ => 0))), (q_7, .inl (cA_8, 3, .inl (fun _ => 0))), (q_9, .inl (cA_10, 21, .inr (.inl (fun _ => 0)))), (q_11, .inl (cA_12, 6, .inl (fun _ => 0)))] := hD
  refine lv_aload_n hx hb dX12_init_57 rfl (lv_at hl 0 rfl) ?_
  refine lv_bipush (v := 6) hx hb dX12_init_58 (by decide) ?_
  refine va_newa (atype := .int) (ty := .int) (a0 := (6, .inl (fun _ => 0))) (N' := 6) hx hb (hts (.arrayClass .int) (by decide +kernel)) rfl hK hP hD hS hA (fun _ => rfl) (by decide) (by decide) (Nat.le_of_ble_eq_true rfl) (Nat.le_of_ble_eq_true rfl) (Nat.le_of_ble_eq_true rfl) dX12_init_60 (fun q_13 cA_14 H hK hP hD hS => ?_)
  have hK : va_K (dC, dI) vwCl [(cA_2, .int), (cA_4, .int), (cA_6, .boolean), (cA_8, .int), (cA_10, .long), (cA_12, .int), (cA_14, .int)] s := hK
  have hP : va_P (dC, dI) vwCl [(mo, .inr (12, [.ref q_1, .ref q_3, .ref q_5, .ref q_7, .long 0, .long 1, .ref q_9, .long 0, .int 0, .int 0, .long 0, .long 0, .ref q_11, .null, .null, .int 0, .null, .int 0, .int 0, .int 0, .int 0, .int 0, .null, .null])), (q_1, .inl (cA_2, 350, .inl (fun _ => 0))), (q_3, .inl (cA_4, 700, .inl (fun _ => 0))), (q_5, .inl (cA_6, 2, .inl (fun _ => 0))), (q_7, .inl (cA_8, 3, .inl (fun _ => 0))), (q_9, .inl (cA_10, 21, .inr (.inl (fun _ => 0)))), (q_11, .inl (cA_12, 6, .inl (fun _ => 0))), (q_13, .inl (cA_14, 6, .inl (fun _ => 0)))] H := hP
  have hD : va_D A [(mo, .inr (12, [.ref q_1, .ref q_3, .ref q_5, .ref q_7, .long 0, .long 1, .ref q_9, .long 0, .int 0, .int 0, .long 0, .long 0, .ref q_11, .null, .null, .int 0, .null, .int 0, .int 0, .int 0, .int 0, .int 0, .null, .null])), (q_1, .inl (cA_2, 350, .inl (fun _ => 0))), (q_3, .inl (cA_4, 700, .inl (fun _ => 0))), (q_5, .inl (cA_6, 2, .inl (fun _ => 0))), (q_7, .inl (cA_8, 3, .inl (fun _ => 0))), (q_9, .inl (cA_10, 21, .inr (.inl (fun _ => 0)))), (q_11, .inl (cA_12, 6, .inl (fun _ => 0))), (q_13, .inl (cA_14, 6, .inl (fun _ => 0)))] := hD
  refine W.widen (k := 7) (n := 1088) (Nat.le_of_ble_eq_true rfl) (Nat.le_of_ble_eq_true rfl) ?_
  refine va_putF (D := (dC, dI)) (ci := 12) (v := .ref q_13) (ty := .array .int) (C := RX12) (T := TX12) (N := 24) hx hb hts iw_k_minit_X12 tyX12 tyX12_ok nmX12 hown hK hP hD hS 0 rfl rfl 13 (by decide) (hts (.fieldLink RX12 34 "ThriceCountedModel" "order" "[I") (by decide +kernel)) (fun _ h9 => h9) rfl hin rfl (by decide +kernel) rfl rfl (Nat.le_of_ble_eq_true rfl) dX12_init_62 (fun H locs hP hD hS => ?_)
  have hP : va_P (dC, dI) vwCl [(mo, .inr (12, [.ref q_1, .ref q_3, .ref q_5, .ref q_7, .long 0, .long 1, .ref q_9, .long 0, .int 0, .int 0, .long 0, .long 0, .ref q_11, .ref q_13, .null, .int 0, .null, .int 0, .int 0, .int 0, .int 0, .int 0, .null, .null])), (q_1, .inl (cA_2, 350, .inl (fun _ => 0))), (q_3, .inl (cA_4, 700, .inl (fun _ => 0))), (q_5, .inl (cA_6, 2, .inl (fun _ => 0))), (q_7, .inl (cA_8, 3, .inl (fun _ => 0))), (q_9, .inl (cA_10, 21, .inr (.inl (fun _ => 0)))), (q_11, .inl (cA_12, 6, .inl (fun _ => 0))), (q_13, .inl (cA_14, 6, .inl (fun _ => 0)))] H := hP
  have hD : va_D A [(mo, .inr (12, [.ref q_1, .ref q_3, .ref q_5, .ref q_7, .long 0, .long 1, .ref q_9, .long 0, .int 0, .int 0, .long 0, .long 0, .ref q_11, .ref q_13, .null, .int 0, .null, .int 0, .int 0, .int 0, .int 0, .int 0, .null, .null])), (q_1, .inl (cA_2, 350, .inl (fun _ => 0))), (q_3, .inl (cA_4, 700, .inl (fun _ => 0))), (q_5, .inl (cA_6, 2, .inl (fun _ => 0))), (q_7, .inl (cA_8, 3, .inl (fun _ => 0))), (q_9, .inl (cA_10, 21, .inr (.inl (fun _ => 0)))), (q_11, .inl (cA_12, 6, .inl (fun _ => 0))), (q_13, .inl (cA_14, 6, .inl (fun _ => 0)))] := hD
  refine lv_aload_n hx hb dX12_init_65 rfl (lv_at hl 0 rfl) ?_
  refine lv_bipush (v := 6) hx hb dX12_init_66 (by decide) ?_
  refine va_newa (atype := .int) (ty := .int) (a0 := (6, .inl (fun _ => 0))) (N' := 6) hx hb (hts (.arrayClass .int) (by decide +kernel)) rfl hK hP hD hS hA (fun _ => rfl) (by decide) (by decide) (Nat.le_of_ble_eq_true rfl) (Nat.le_of_ble_eq_true rfl) (Nat.le_of_ble_eq_true rfl) dX12_init_68 (fun q_15 cA_16 H hK hP hD hS => ?_)
  have hK : va_K (dC, dI) vwCl [(cA_2, .int), (cA_4, .int), (cA_6, .boolean), (cA_8, .int), (cA_10, .long), (cA_12, .int), (cA_14, .int), (cA_16, .int)] s := hK
  have hP : va_P (dC, dI) vwCl [(mo, .inr (12, [.ref q_1, .ref q_3, .ref q_5, .ref q_7, .long 0, .long 1, .ref q_9, .long 0, .int 0, .int 0, .long 0, .long 0, .ref q_11, .ref q_13, .null, .int 0, .null, .int 0, .int 0, .int 0, .int 0, .int 0, .null, .null])), (q_1, .inl (cA_2, 350, .inl (fun _ => 0))), (q_3, .inl (cA_4, 700, .inl (fun _ => 0))), (q_5, .inl (cA_6, 2, .inl (fun _ => 0))), (q_7, .inl (cA_8, 3, .inl (fun _ => 0))), (q_9, .inl (cA_10, 21, .inr (.inl (fun _ => 0)))), (q_11, .inl (cA_12, 6, .inl (fun _ => 0))), (q_13, .inl (cA_14, 6, .inl (fun _ => 0))), (q_15, .inl (cA_16, 6, .inl (fun _ => 0)))] H := hP
  have hD : va_D A [(mo, .inr (12, [.ref q_1, .ref q_3, .ref q_5, .ref q_7, .long 0, .long 1, .ref q_9, .long 0, .int 0, .int 0, .long 0, .long 0, .ref q_11, .ref q_13, .null, .int 0, .null, .int 0, .int 0, .int 0, .int 0, .int 0, .null, .null])), (q_1, .inl (cA_2, 350, .inl (fun _ => 0))), (q_3, .inl (cA_4, 700, .inl (fun _ => 0))), (q_5, .inl (cA_6, 2, .inl (fun _ => 0))), (q_7, .inl (cA_8, 3, .inl (fun _ => 0))), (q_9, .inl (cA_10, 21, .inr (.inl (fun _ => 0)))), (q_11, .inl (cA_12, 6, .inl (fun _ => 0))), (q_13, .inl (cA_14, 6, .inl (fun _ => 0))), (q_15, .inl (cA_16, 6, .inl (fun _ => 0)))] := hD
  refine W.widen (k := 8) (n := 1094) (Nat.le_of_ble_eq_true rfl) (Nat.le_of_ble_eq_true rfl) ?_
  refine va_putF (D := (dC, dI)) (ci := 12) (v := .ref q_15) (ty := .array .int) (C := RX12) (T := TX12) (N := 24) hx hb hts iw_k_minit_X12 tyX12 tyX12_ok nmX12 hown hK hP hD hS 0 rfl rfl 14 (by decide) (hts (.fieldLink RX12 37 "ThriceCountedModel" "bestOrder" "[I") (by decide +kernel)) (fun _ h9 => h9) rfl hin rfl (by decide +kernel) rfl rfl (Nat.le_of_ble_eq_true rfl) dX12_init_70 (fun H locs hP hD hS => ?_)
  have hP : va_P (dC, dI) vwCl [(mo, .inr (12, [.ref q_1, .ref q_3, .ref q_5, .ref q_7, .long 0, .long 1, .ref q_9, .long 0, .int 0, .int 0, .long 0, .long 0, .ref q_11, .ref q_13, .ref q_15, .int 0, .null, .int 0, .int 0, .int 0, .int 0, .int 0, .null, .null])), (q_1, .inl (cA_2, 350, .inl (fun _ => 0))), (q_3, .inl (cA_4, 700, .inl (fun _ => 0))), (q_5, .inl (cA_6, 2, .inl (fun _ => 0))), (q_7, .inl (cA_8, 3, .inl (fun _ => 0))), (q_9, .inl (cA_10, 21, .inr (.inl (fun _ => 0)))), (q_11, .inl (cA_12, 6, .inl (fun _ => 0))), (q_13, .inl (cA_14, 6, .inl (fun _ => 0))), (q_15, .inl (cA_16, 6, .inl (fun _ => 0)))] H := hP
  have hD : va_D A [(mo, .inr (12, [.ref q_1, .ref q_3, .ref q_5, .ref q_7, .long 0, .long 1, .ref q_9, .long 0, .int 0, .int 0, .long 0, .long 0, .ref q_11, .ref q_13, .ref q_15, .int 0, .null, .int 0, .int 0, .int 0, .int 0, .int 0, .null, .null])), (q_1, .inl (cA_2, 350, .inl (fun _ => 0))), (q_3, .inl (cA_4, 700, .inl (fun _ => 0))), (q_5, .inl (cA_6, 2, .inl (fun _ => 0))), (q_7, .inl (cA_8, 3, .inl (fun _ => 0))), (q_9, .inl (cA_10, 21, .inr (.inl (fun _ => 0)))), (q_11, .inl (cA_12, 6, .inl (fun _ => 0))), (q_13, .inl (cA_14, 6, .inl (fun _ => 0))), (q_15, .inl (cA_16, 6, .inl (fun _ => 0)))] := hD
  refine lv_aload_n hx hb dX12_init_73 rfl (lv_at hl 0 rfl) ?_
  refine lv_sipush (v := 150) hx hb dX12_init_74 (by decide) ?_
  refine va_newa (atype := .int) (ty := .int) (a0 := (150, .inl (fun _ => 0))) (N' := 150) hx hb (hts (.arrayClass .int) (by decide +kernel)) rfl hK hP hD hS hA (fun _ => rfl) (by decide) (by decide) (Nat.le_of_ble_eq_true rfl) (Nat.le_of_ble_eq_true rfl) (Nat.le_of_ble_eq_true rfl) dX12_init_77 (fun q_17 cA_18 H hK hP hD hS => ?_)
  have hK : va_K (dC, dI) vwCl [(cA_2, .int), (cA_4, .int), (cA_6, .boolean), (cA_8, .int), (cA_10, .long), (cA_12, .int), (cA_14, .int), (cA_16, .int), (cA_18, .int)] s := hK
  have hP : va_P (dC, dI) vwCl [(mo, .inr (12, [.ref q_1, .ref q_3, .ref q_5, .ref q_7, .long 0, .long 1, .ref q_9, .long 0, .int 0, .int 0, .long 0, .long 0, .ref q_11, .ref q_13, .ref q_15, .int 0, .null, .int 0, .int 0, .int 0, .int 0, .int 0, .null, .null])), (q_1, .inl (cA_2, 350, .inl (fun _ => 0))), (q_3, .inl (cA_4, 700, .inl (fun _ => 0))), (q_5, .inl (cA_6, 2, .inl (fun _ => 0))), (q_7, .inl (cA_8, 3, .inl (fun _ => 0))), (q_9, .inl (cA_10, 21, .inr (.inl (fun _ => 0)))), (q_11, .inl (cA_12, 6, .inl (fun _ => 0))), (q_13, .inl (cA_14, 6, .inl (fun _ => 0))), (q_15, .inl (cA_16, 6, .inl (fun _ => 0))), (q_17, .inl (cA_18, 150, .inl (fun _ => 0)))] H := hP
  have hD : va_D A [(mo, .inr (12, [.ref q_1, .ref q_3, .ref q_5, .ref q_7, .long 0, .long 1, .ref q_9, .long 0, .int 0, .int 0, .long 0, .long 0, .ref q_11, .ref q_13, .ref q_15, .int 0, .null, .int 0, .int 0, .int 0, .int 0, .int 0, .null, .null])), (q_1, .inl (cA_2, 350, .inl (fun _ => 0))), (q_3, .inl (cA_4, 700, .inl (fun _ => 0))), (q_5, .inl (cA_6, 2, .inl (fun _ => 0))), (q_7, .inl (cA_8, 3, .inl (fun _ => 0))), (q_9, .inl (cA_10, 21, .inr (.inl (fun _ => 0)))), (q_11, .inl (cA_12, 6, .inl (fun _ => 0))), (q_13, .inl (cA_14, 6, .inl (fun _ => 0))), (q_15, .inl (cA_16, 6, .inl (fun _ => 0))), (q_17, .inl (cA_18, 150, .inl (fun _ => 0)))] := hD
  refine W.widen (k := 9) (n := 1244) (Nat.le_of_ble_eq_true rfl) (Nat.le_of_ble_eq_true rfl) ?_
  refine va_putF (D := (dC, dI)) (ci := 12) (v := .ref q_17) (ty := .array .int) (C := RX12) (T := TX12) (N := 24) hx hb hts iw_k_minit_X12 tyX12 tyX12_ok nmX12 hown hK hP hD hS 0 rfl rfl 16 (by decide) (hts (.fieldLink RX12 40 "ThriceCountedModel" "bytes" "[I") (by decide +kernel)) (fun _ h9 => h9) rfl hin rfl (by decide +kernel) rfl rfl (Nat.le_of_ble_eq_true rfl) dX12_init_79 (fun H locs hP hD hS => ?_)
  have hP : va_P (dC, dI) vwCl [(mo, .inr (12, [.ref q_1, .ref q_3, .ref q_5, .ref q_7, .long 0, .long 1, .ref q_9, .long 0, .int 0, .int 0, .long 0, .long 0, .ref q_11, .ref q_13, .ref q_15, .int 0, .ref q_17, .int 0, .int 0, .int 0, .int 0, .int 0, .null, .null])), (q_1, .inl (cA_2, 350, .inl (fun _ => 0))), (q_3, .inl (cA_4, 700, .inl (fun _ => 0))), (q_5, .inl (cA_6, 2, .inl (fun _ => 0))), (q_7, .inl (cA_8, 3, .inl (fun _ => 0))), (q_9, .inl (cA_10, 21, .inr (.inl (fun _ => 0)))), (q_11, .inl (cA_12, 6, .inl (fun _ => 0))), (q_13, .inl (cA_14, 6, .inl (fun _ => 0))), (q_15, .inl (cA_16, 6, .inl (fun _ => 0))), (q_17, .inl (cA_18, 150, .inl (fun _ => 0)))] H := hP
  have hD : va_D A [(mo, .inr (12, [.ref q_1, .ref q_3, .ref q_5, .ref q_7, .long 0, .long 1, .ref q_9, .long 0, .int 0, .int 0, .long 0, .long 0, .ref q_11, .ref q_13, .ref q_15, .int 0, .ref q_17, .int 0, .int 0, .int 0, .int 0, .int 0, .null, .null])), (q_1, .inl (cA_2, 350, .inl (fun _ => 0))), (q_3, .inl (cA_4, 700, .inl (fun _ => 0))), (q_5, .inl (cA_6, 2, .inl (fun _ => 0))), (q_7, .inl (cA_8, 3, .inl (fun _ => 0))), (q_9, .inl (cA_10, 21, .inr (.inl (fun _ => 0)))), (q_11, .inl (cA_12, 6, .inl (fun _ => 0))), (q_13, .inl (cA_14, 6, .inl (fun _ => 0))), (q_15, .inl (cA_16, 6, .inl (fun _ => 0))), (q_17, .inl (cA_18, 150, .inl (fun _ => 0)))] := hD
  refine lv_aload_n hx hb dX12_init_82 rfl (lv_at hl 0 rfl) ?_
  refine lv_bipush (v := 86) hx hb dX12_init_83 (by decide) ?_
  refine va_newa (atype := .int) (ty := .int) (a0 := (86, .inl (fun _ => 0))) (N' := 86) hx hb (hts (.arrayClass .int) (by decide +kernel)) rfl hK hP hD hS hA (fun _ => rfl) (by decide) (by decide) (Nat.le_of_ble_eq_true rfl) (Nat.le_of_ble_eq_true rfl) (Nat.le_of_ble_eq_true rfl) dX12_init_85 (fun q_19 cA_20 H hK hP hD hS => ?_)
  have hK : va_K (dC, dI) vwCl [(cA_2, .int), (cA_4, .int), (cA_6, .boolean), (cA_8, .int), (cA_10, .long), (cA_12, .int), (cA_14, .int), (cA_16, .int), (cA_18, .int), (cA_20, .int)] s := hK
  have hP : va_P (dC, dI) vwCl [(mo, .inr (12, [.ref q_1, .ref q_3, .ref q_5, .ref q_7, .long 0, .long 1, .ref q_9, .long 0, .int 0, .int 0, .long 0, .long 0, .ref q_11, .ref q_13, .ref q_15, .int 0, .ref q_17, .int 0, .int 0, .int 0, .int 0, .int 0, .null, .null])), (q_1, .inl (cA_2, 350, .inl (fun _ => 0))), (q_3, .inl (cA_4, 700, .inl (fun _ => 0))), (q_5, .inl (cA_6, 2, .inl (fun _ => 0))), (q_7, .inl (cA_8, 3, .inl (fun _ => 0))), (q_9, .inl (cA_10, 21, .inr (.inl (fun _ => 0)))), (q_11, .inl (cA_12, 6, .inl (fun _ => 0))), (q_13, .inl (cA_14, 6, .inl (fun _ => 0))), (q_15, .inl (cA_16, 6, .inl (fun _ => 0))), (q_17, .inl (cA_18, 150, .inl (fun _ => 0))), (q_19, .inl (cA_20, 86, .inl (fun _ => 0)))] H := hP
  have hD : va_D A [(mo, .inr (12, [.ref q_1, .ref q_3, .ref q_5, .ref q_7, .long 0, .long 1, .ref q_9, .long 0, .int 0, .int 0, .long 0, .long 0, .ref q_11, .ref q_13, .ref q_15, .int 0, .ref q_17, .int 0, .int 0, .int 0, .int 0, .int 0, .null, .null])), (q_1, .inl (cA_2, 350, .inl (fun _ => 0))), (q_3, .inl (cA_4, 700, .inl (fun _ => 0))), (q_5, .inl (cA_6, 2, .inl (fun _ => 0))), (q_7, .inl (cA_8, 3, .inl (fun _ => 0))), (q_9, .inl (cA_10, 21, .inr (.inl (fun _ => 0)))), (q_11, .inl (cA_12, 6, .inl (fun _ => 0))), (q_13, .inl (cA_14, 6, .inl (fun _ => 0))), (q_15, .inl (cA_16, 6, .inl (fun _ => 0))), (q_17, .inl (cA_18, 150, .inl (fun _ => 0))), (q_19, .inl (cA_20, 86, .inl (fun _ => 0)))] := hD
  refine W.widen (k := 10) (n := 1330) (Nat.le_of_ble_eq_true rfl) (Nat.le_of_ble_eq_true rfl) ?_
  refine va_putF (D := (dC, dI)) (ci := 12) (v := .ref q_19) (ty := .array .int) (C := RX12) (T := TX12) (N := 24) hx hb hts iw_k_minit_X12 tyX12 tyX12_ok nmX12 hown hK hP hD hS 0 rfl rfl 22 (by decide) (hts (.fieldLink RX12 43 "ThriceCountedModel" "next" "[I") (by decide +kernel)) (fun _ h9 => h9) rfl hin rfl (by decide +kernel) rfl rfl (Nat.le_of_ble_eq_true rfl) dX12_init_87 (fun H locs hP hD hS => ?_)
  have hP : va_P (dC, dI) vwCl [(mo, .inr (12, [.ref q_1, .ref q_3, .ref q_5, .ref q_7, .long 0, .long 1, .ref q_9, .long 0, .int 0, .int 0, .long 0, .long 0, .ref q_11, .ref q_13, .ref q_15, .int 0, .ref q_17, .int 0, .int 0, .int 0, .int 0, .int 0, .ref q_19, .null])), (q_1, .inl (cA_2, 350, .inl (fun _ => 0))), (q_3, .inl (cA_4, 700, .inl (fun _ => 0))), (q_5, .inl (cA_6, 2, .inl (fun _ => 0))), (q_7, .inl (cA_8, 3, .inl (fun _ => 0))), (q_9, .inl (cA_10, 21, .inr (.inl (fun _ => 0)))), (q_11, .inl (cA_12, 6, .inl (fun _ => 0))), (q_13, .inl (cA_14, 6, .inl (fun _ => 0))), (q_15, .inl (cA_16, 6, .inl (fun _ => 0))), (q_17, .inl (cA_18, 150, .inl (fun _ => 0))), (q_19, .inl (cA_20, 86, .inl (fun _ => 0)))] H := hP
  have hD : va_D A [(mo, .inr (12, [.ref q_1, .ref q_3, .ref q_5, .ref q_7, .long 0, .long 1, .ref q_9, .long 0, .int 0, .int 0, .long 0, .long 0, .ref q_11, .ref q_13, .ref q_15, .int 0, .ref q_17, .int 0, .int 0, .int 0, .int 0, .int 0, .ref q_19, .null])), (q_1, .inl (cA_2, 350, .inl (fun _ => 0))), (q_3, .inl (cA_4, 700, .inl (fun _ => 0))), (q_5, .inl (cA_6, 2, .inl (fun _ => 0))), (q_7, .inl (cA_8, 3, .inl (fun _ => 0))), (q_9, .inl (cA_10, 21, .inr (.inl (fun _ => 0)))), (q_11, .inl (cA_12, 6, .inl (fun _ => 0))), (q_13, .inl (cA_14, 6, .inl (fun _ => 0))), (q_15, .inl (cA_16, 6, .inl (fun _ => 0))), (q_17, .inl (cA_18, 150, .inl (fun _ => 0))), (q_19, .inl (cA_20, 86, .inl (fun _ => 0)))] := hD
  refine lv_aload_n hx hb dX12_init_90 rfl (lv_at hl 0 rfl) ?_
  refine lv_iconst (v := 4) hx hb dX12_init_91 (by decide) ?_
  refine va_newa (atype := .int) (ty := .int) (a0 := (4, .inl (fun _ => 0))) (N' := 4) hx hb (hts (.arrayClass .int) (by decide +kernel)) rfl hK hP hD hS hA (fun _ => rfl) (by decide) (by decide) (Nat.le_of_ble_eq_true rfl) (Nat.le_of_ble_eq_true rfl) (Nat.le_of_ble_eq_true rfl) dX12_init_92 (fun q_21 cA_22 H hK hP hD hS => ?_)
  have hK : va_K (dC, dI) vwCl [(cA_2, .int), (cA_4, .int), (cA_6, .boolean), (cA_8, .int), (cA_10, .long), (cA_12, .int), (cA_14, .int), (cA_16, .int), (cA_18, .int), (cA_20, .int), (cA_22, .int)] s := hK
  have hP : va_P (dC, dI) vwCl [(mo, .inr (12, [.ref q_1, .ref q_3, .ref q_5, .ref q_7, .long 0, .long 1, .ref q_9, .long 0, .int 0, .int 0, .long 0, .long 0, .ref q_11, .ref q_13, .ref q_15, .int 0, .ref q_17, .int 0, .int 0, .int 0, .int 0, .int 0, .ref q_19, .null])), (q_1, .inl (cA_2, 350, .inl (fun _ => 0))), (q_3, .inl (cA_4, 700, .inl (fun _ => 0))), (q_5, .inl (cA_6, 2, .inl (fun _ => 0))), (q_7, .inl (cA_8, 3, .inl (fun _ => 0))), (q_9, .inl (cA_10, 21, .inr (.inl (fun _ => 0)))), (q_11, .inl (cA_12, 6, .inl (fun _ => 0))), (q_13, .inl (cA_14, 6, .inl (fun _ => 0))), (q_15, .inl (cA_16, 6, .inl (fun _ => 0))), (q_17, .inl (cA_18, 150, .inl (fun _ => 0))), (q_19, .inl (cA_20, 86, .inl (fun _ => 0))), (q_21, .inl (cA_22, 4, .inl (fun _ => 0)))] H := hP
  have hD : va_D A [(mo, .inr (12, [.ref q_1, .ref q_3, .ref q_5, .ref q_7, .long 0, .long 1, .ref q_9, .long 0, .int 0, .int 0, .long 0, .long 0, .ref q_11, .ref q_13, .ref q_15, .int 0, .ref q_17, .int 0, .int 0, .int 0, .int 0, .int 0, .ref q_19, .null])), (q_1, .inl (cA_2, 350, .inl (fun _ => 0))), (q_3, .inl (cA_4, 700, .inl (fun _ => 0))), (q_5, .inl (cA_6, 2, .inl (fun _ => 0))), (q_7, .inl (cA_8, 3, .inl (fun _ => 0))), (q_9, .inl (cA_10, 21, .inr (.inl (fun _ => 0)))), (q_11, .inl (cA_12, 6, .inl (fun _ => 0))), (q_13, .inl (cA_14, 6, .inl (fun _ => 0))), (q_15, .inl (cA_16, 6, .inl (fun _ => 0))), (q_17, .inl (cA_18, 150, .inl (fun _ => 0))), (q_19, .inl (cA_20, 86, .inl (fun _ => 0))), (q_21, .inl (cA_22, 4, .inl (fun _ => 0)))] := hD
  refine W.widen (k := 11) (n := 1334) (Nat.le_of_ble_eq_true rfl) (Nat.le_of_ble_eq_true rfl) ?_
  refine va_putF (D := (dC, dI)) (ci := 12) (v := .ref q_21) (ty := .array .int) (C := RX12) (T := TX12) (N := 24) hx hb hts iw_k_minit_X12 tyX12 tyX12_ok nmX12 hown hK hP hD hS 0 rfl rfl 23 (by decide) (hts (.fieldLink RX12 46 "ThriceCountedModel" "values" "[I") (by decide +kernel)) (fun _ h9 => h9) rfl hin rfl (by decide +kernel) rfl rfl (Nat.le_of_ble_eq_true rfl) dX12_init_94 (fun H locs hP hD hS => ?_)
  have hP : va_P (dC, dI) vwCl [(mo, .inr (12, [.ref q_1, .ref q_3, .ref q_5, .ref q_7, .long 0, .long 1, .ref q_9, .long 0, .int 0, .int 0, .long 0, .long 0, .ref q_11, .ref q_13, .ref q_15, .int 0, .ref q_17, .int 0, .int 0, .int 0, .int 0, .int 0, .ref q_19, .ref q_21])), (q_1, .inl (cA_2, 350, .inl (fun _ => 0))), (q_3, .inl (cA_4, 700, .inl (fun _ => 0))), (q_5, .inl (cA_6, 2, .inl (fun _ => 0))), (q_7, .inl (cA_8, 3, .inl (fun _ => 0))), (q_9, .inl (cA_10, 21, .inr (.inl (fun _ => 0)))), (q_11, .inl (cA_12, 6, .inl (fun _ => 0))), (q_13, .inl (cA_14, 6, .inl (fun _ => 0))), (q_15, .inl (cA_16, 6, .inl (fun _ => 0))), (q_17, .inl (cA_18, 150, .inl (fun _ => 0))), (q_19, .inl (cA_20, 86, .inl (fun _ => 0))), (q_21, .inl (cA_22, 4, .inl (fun _ => 0)))] H := hP
  have hD : va_D A [(mo, .inr (12, [.ref q_1, .ref q_3, .ref q_5, .ref q_7, .long 0, .long 1, .ref q_9, .long 0, .int 0, .int 0, .long 0, .long 0, .ref q_11, .ref q_13, .ref q_15, .int 0, .ref q_17, .int 0, .int 0, .int 0, .int 0, .int 0, .ref q_19, .ref q_21])), (q_1, .inl (cA_2, 350, .inl (fun _ => 0))), (q_3, .inl (cA_4, 700, .inl (fun _ => 0))), (q_5, .inl (cA_6, 2, .inl (fun _ => 0))), (q_7, .inl (cA_8, 3, .inl (fun _ => 0))), (q_9, .inl (cA_10, 21, .inr (.inl (fun _ => 0)))), (q_11, .inl (cA_12, 6, .inl (fun _ => 0))), (q_13, .inl (cA_14, 6, .inl (fun _ => 0))), (q_15, .inl (cA_16, 6, .inl (fun _ => 0))), (q_17, .inl (cA_18, 150, .inl (fun _ => 0))), (q_19, .inl (cA_20, 86, .inl (fun _ => 0))), (q_21, .inl (cA_22, 4, .inl (fun _ => 0)))] := hD
  have hP9 := hP.sub (ws' := [(mo, .inr (12, [.ref q_1, .ref q_3, .ref q_5, .ref q_7, .long 0, .long 1, .ref q_9, .long 0, .int 0, .int 0, .long 0, .long 0, .ref q_11, .ref q_13, .ref q_15, .int 0, .ref q_17, .int 0, .int 0, .int 0, .int 0, .int 0, .ref q_19, .ref q_21])), (q_1, .inl (cA_2, 350, .inl (fun _ => 0))), (q_3, .inl (cA_4, 700, .inl (fun _ => 0))), (q_5, .inl (cA_6, 2, .inl (fun _ => 0))), (q_7, .inl (cA_8, 3, .inl (fun _ => 0))), (q_17, .inl (cA_18, 150, .inl (fun _ => 0)))]) [0, 1, 2, 3, 4, 9] rfl
  have hD9 := hD.sub (ws' := [(mo, .inr (12, [.ref q_1, .ref q_3, .ref q_5, .ref q_7, .long 0, .long 1, .ref q_9, .long 0, .int 0, .int 0, .long 0, .long 0, .ref q_11, .ref q_13, .ref q_15, .int 0, .ref q_17, .int 0, .int 0, .int 0, .int 0, .int 0, .ref q_19, .ref q_21])), (q_1, .inl (cA_2, 350, .inl (fun _ => 0))), (q_3, .inl (cA_4, 700, .inl (fun _ => 0))), (q_5, .inl (cA_6, 2, .inl (fun _ => 0))), (q_7, .inl (cA_8, 3, .inl (fun _ => 0))), (q_17, .inl (cA_18, 150, .inl (fun _ => 0)))]) [0, 1, 2, 3, 4, 9] (by decide) rfl
  have hK9 := hK.sub (tys' := [(cA_2, .int), (cA_4, .int), (cA_6, .boolean), (cA_8, .int), (cA_18, .int)]) [0, 1, 2, 3, 8] rfl
  refine W.widen (k := 11) (n := 1334) (Nat.le_of_ble_eq_true rfl) (Nat.le_of_ble_eq_true rfl) ?_
  exact W.vret hx hb hr (fun t ht hW => ⟨⟨(), rfl, trivial, q_1, q_3, q_5, q_7, q_9, q_11, q_13, q_15, q_17, q_19, q_21, cA_2, cA_4, cA_6, cA_8, cA_18, by rw [ht]; exact hP9, va_K.moved hW.alike hK9, hD9⟩, hS.F ht⟩) hS.2.2 dX12_init_97
theorem dX12_in_0 : decode cX12_in 0 = .ok (.lload_n 0, 1) := by decide +kernel
theorem dX12_in_1 : decode cX12_in 1 = .ok (.lload_n 2, 1) := by decide +kernel
theorem dX12_in_2 : decode cX12_in 2 = .ok (.lcmp, 1) := by decide +kernel
theorem dX12_in_3 : decode cX12_in 3 = .ok (.ifCond .lt 14, 3) := by decide +kernel
theorem dX12_in_17 : decode cX12_in 17 = .ok (.iconst 0, 1) := by decide +kernel
theorem dX12_in_18 : decode cX12_in 18 = .ok (.ireturn, 1) := by decide +kernel
theorem dX12_in_6 : decode cX12_in 6 = .ok (.lload_n 0, 1) := by decide +kernel
theorem dX12_in_7 : decode cX12_in 7 = .ok (.lload 4, 2) := by decide +kernel
theorem dX12_in_9 : decode cX12_in 9 = .ok (.lcmp, 1) := by decide +kernel
theorem dX12_in_10 : decode cX12_in 10 = .ok (.ifCond .gt 7, 3) := by decide +kernel
theorem dX12_in_13 : decode cX12_in 13 = .ok (.iconst 1, 1) := by decide +kernel
theorem dX12_in_14 : decode cX12_in 14 = .ok (.goto 4, 3) := by decide +kernel
set_option maxHeartbeats 4000000 in
set_option maxRecDepth 100000 in
theorem k_in (l : Launch) (dC : Nat → ClassId) (dI : Nat → Nat → Nat) (v : Int64) (lo : Int64) (hi : Int64) : Met l yX12_in wsX12_in ({ frames := 0, cells := 0, slots := 0, locals := 0 }) (va_Pc [.long v, .long lo, .long hi] (fun _ => True)) (vp_Si (fun r => r = if lo ≤ v ∧ v ≤ hi then 1 else 0)) 0 0 (fun _ => False) := by
  refine Met.ofW (cc := cX12_in) (maxL := 6) (ret := (some .boolean)) (by decide) rfl ?_
  intro p e s m args below meth c s₁ B hml hv
  obtain ⟨rfl, -⟩ := hv
  have hx := B.exec
  have hb := B.bytes
  have hr := B.returns
  have hts := atoms_spec (ws := wsX12_in) B.pre
  have hown : s.vm.findClass RX12 = some m.cls := findClass_of_methodNamed B.named
  have hlocks := B.notSynchronized
  have hl := lv_entry ([.long v, .long lo, .long hi]) (n := 6) (Nat.le_of_ble_eq_true rfl)
  rw [lg_entry_eq]
  generalize (lg_sl ([.long v, .long lo, .long hi]) ++ List.replicate (6 - (lg_sl ([.long v, .long lo, .long hi])).length) Slot.unset).toArray = ls at hl ⊢
  have hl : lv_has ls 6 [(0, .long v), (2, .long lo), (4, .long hi)] := hl
  refine lv_lload_n hx hb dX12_in_0 rfl (lv_at hl 0 rfl) ?_
  refine lv_lload_n hx hb dX12_in_1 rfl (lv_at hl 1 rfl) ?_
  refine W.lcmp hx hb dX12_in_2 ?_
  refine lv_if_lt (tgt := 17) hx hb dX12_in_3 (by decide) (fun c_1 => ?_) (fun c_1 => ?_)
  · refine lv_iconst (v := 0) hx hb dX12_in_17 (by decide) ?_
    exact W.zret (v := 0) hx hb hr (by decide) (fun t ht hW => ⟨0, rfl, (if_neg (fun z => tz_cmp_lt c_1 z.1)).symm, ht⟩) (fun _ h => absurd h List.not_mem_nil) dX12_in_18
  · refine lv_lload_n hx hb dX12_in_6 rfl (lv_at hl 0 rfl) ?_
    refine lv_lload hx hb dX12_in_7 (lv_at hl 2 rfl) ?_
    refine W.lcmp hx hb dX12_in_9 ?_
    refine lv_if_gt (tgt := 17) hx hb dX12_in_10 (by decide) (fun c_2 => ?_) (fun c_2 => ?_)
    · refine lv_iconst (v := 0) hx hb dX12_in_17 (by decide) ?_
      exact W.zret (v := 0) hx hb hr (by decide) (fun t ht hW => ⟨0, rfl, (if_neg (fun z => tz_cmp_gt c_2 z.2)).symm, ht⟩) (fun _ h => absurd h List.not_mem_nil) dX12_in_18
    · refine lv_iconst (v := 1) hx hb dX12_in_13 (by decide) ?_
      refine lv_goto (tgt := 18) hx hb dX12_in_14 (by decide) ?_
      exact W.zret (v := 1) hx hb hr (by decide) (fun t ht hW => ⟨1, rfl, (if_pos ⟨tz_cmp_nlt c_1, tz_cmp_ngt c_2⟩).symm, ht⟩) (fun _ h => absurd h List.not_mem_nil) dX12_in_18
theorem dX12_bad_0 : decode cX12_bad 0 = .ok (.aload_n 0, 1) := by decide +kernel
theorem dX12_bad_1 : decode cX12_bad 1 = .ok (.getfield 20, 3) := by decide +kernel
theorem dX12_bad_4 : decode cX12_bad 4 = .ok (.iconst 0, 1) := by decide +kernel
theorem dX12_bad_5 : decode cX12_bad 5 = .ok (.dup2, 1) := by decide +kernel
theorem dX12_bad_6 : decode cX12_bad 6 = .ok (.iaload, 1) := by decide +kernel
theorem dX12_bad_7 : decode cX12_bad 7 = .ok (.iconst 1, 1) := by decide +kernel
theorem dX12_bad_8 : decode cX12_bad 8 = .ok (.iadd, 1) := by decide +kernel
theorem dX12_bad_9 : decode cX12_bad 9 = .ok (.iastore, 1) := by decide +kernel
theorem dX12_bad_10 : decode cX12_bad 10 = .ok (.iload_n 1, 1) := by decide +kernel
theorem dX12_bad_11 : decode cX12_bad 11 = .ok (.ireturn, 1) := by decide +kernel
set_option maxRecDepth 20000 in
theorem iw_k_bad_X12 : ∀ w ∈ wsX120, w ∈ wsX12_bad := by decide +kernel
set_option maxHeartbeats 4000000 in
set_option maxRecDepth 100000 in
theorem k_bad (l : Launch) (dC : Nat → ClassId) (dI : Nat → Nat → Nat) (mo : Nat) (nw : Nat) (kp : Nat) (ik : Nat) (mr : Nat) (mw : Nat) (mq : Nat) (mz : Nat) (my : Nat) (mb : Nat) (mx : Nat) (mv : Nat) (cm : ClassId) (na : Int32) (sz : Nat) : Met l yX12_bad wsX12_bad ({ frames := 0, cells := 0, slots := 0, locals := 0 }) (va_Pc [.ref mo, .int na] (fun U => U.heap.size = sz ∧ va_P (dC, dI) vwCl [(mo, .inr (12, [.ref nw, .ref kp, .ref ik, .ref mr, .long 0, .long 1, .ref mw, .long 0, .int 0, .int 0, .long 0, .long 0, .ref mq, .ref mz, .ref my, .int 0, .ref mb, .int 0, .int 0, .int 0, .int 0, .int 0, .ref mx, .ref mv])), (mr, .inl (cm, 3, .inl (fun _ => 0)))] U.heap ∧ va_K (dC, dI) vwCl [(cm, .int)] U ∧ va_D (fun _ => True) [(mo, .inr (12, [.ref nw, .ref kp, .ref ik, .ref mr, .long 0, .long 1, .ref mw, .long 0, .int 0, .int 0, .long 0, .long 0, .ref mq, .ref mz, .ref my, .int 0, .ref mb, .int 0, .int 0, .int 0, .int 0, .int 0, .ref mx, .ref mv])), (mr, .inl (cm, 3, .inl (fun _ => 0)))])) (va_Qi (fun (r : Int32) (_ : Unit) => r = na) (fun _ _ => True) (va_A [(mo, .inr (12, [.ref nw, .ref kp, .ref ik, .ref mr, .long 0, .long 1, .ref mw, .long 0, .int 0, .int 0, .long 0, .long 0, .ref mq, .ref mz, .ref my, .int 0, .ref mb, .int 0, .int 0, .int 0, .int 0, .int 0, .ref mx, .ref mv])), (mr, .inl (cm, 3, .inl (fun _ => 0)))] sz)) 0 0 (va_A [(mo, .inr (12, [.ref nw, .ref kp, .ref ik, .ref mr, .long 0, .long 1, .ref mw, .long 0, .int 0, .int 0, .long 0, .long 0, .ref mq, .ref mz, .ref my, .int 0, .ref mb, .int 0, .int 0, .int 0, .int 0, .int 0, .ref mx, .ref mv])), (mr, .inl (cm, 3, .inl (fun _ => 0)))] sz) := by
  refine Met.ofW (cc := cX12_bad) (maxL := 2) (ret := (some .int)) (by decide) rfl ?_
  intro p e s m args below meth c s₁ B hml hv
  obtain ⟨rfl, hsz, hP, hK, hD0⟩ := hv
  have hx := B.exec
  have hb := B.bytes
  have hr := B.returns
  have hts := atoms_spec (ws := wsX12_bad) B.pre
  have hown : s.vm.findClass RX12 = some m.cls := findClass_of_methodNamed B.named
  have hlocks := B.notSynchronized
  subst hsz
  have hD := hD0.self (sz := s.heap.size)
  generalize hAe : va_A [(mo, .inr (12, [.ref nw, .ref kp, .ref ik, .ref mr, .long 0, .long 1, .ref mw, .long 0, .int 0, .int 0, .long 0, .long 0, .ref mq, .ref mz, .ref my, .int 0, .ref mb, .int 0, .int 0, .int 0, .int 0, .int 0, .ref mx, .ref mv])), (mr, .inl (cm, 3, .inl (fun _ => 0)))] s.heap.size = A at hD ⊢
  have hA : ∀ q : Nat, s.heap.size ≤ q → A q := fun q h => by rw [← hAe]; exact Or.inr h
  have hS : va_S A s.heap s.heap [] := va_S.rf
  have hP : va_P (dC, dI) vwCl [(mo, .inr (12, [.ref nw, .ref kp, .ref ik, .ref mr, .long 0, .long 1, .ref mw, .long 0, .int 0, .int 0, .long 0, .long 0, .ref mq, .ref mz, .ref my, .int 0, .ref mb, .int 0, .int 0, .int 0, .int 0, .int 0, .ref mx, .ref mv])), (mr, .inl (cm, 3, .inl (fun _ => 0)))] s.heap := hP
  have hl := lv_entry ([.ref mo, .int na]) (n := 2) (Nat.le_of_ble_eq_true rfl)
  rw [lg_entry_eq]
  generalize (lg_sl ([.ref mo, .int na]) ++ List.replicate (2 - (lg_sl ([.ref mo, .int na])).length) Slot.unset).toArray = ls at hl ⊢
  have hl : lv_has ls 2 [(0, .ref mo), (1, .int na)] := hl
  refine lv_aload_n hx hb dX12_bad_0 rfl (lv_at hl 0 rfl) ?_
  refine va_get (D := (dC, dI)) (ci := 12) (v := .ref mr) (C := RX12) (T := TX12) (N := 24) hx hb hts iw_k_bad_X12 hown hK hP 0 rfl rfl 3 (by decide) (hts (.fieldLink RX12 20 "ThriceCountedModel" "refused" "[I") (by decide +kernel)) (fun _ h9 => h9) rfl dX12_bad_1 ?_
  refine lv_iconst (v := 0) hx hb dX12_bad_4 (by decide) ?_
  refine lv_dup2_11 hx hb dX12_bad_5 rfl rfl ?_
  refine va_iald hx hb hK hP 1 0 rfl rfl (show ¬ ((0 : Int32) < 0 ∨ 3 ≤ (0 : Int32).toNatClampNeg) by decide) dX12_bad_6 ?_
  refine tz_i 0 rfl ?_
  refine lv_iconst (v := 1) hx hb dX12_bad_7 (by decide) ?_
  refine lv_iadd hx hb dX12_bad_8 ?_
  refine tz_i 1 (by decide) ?_
  refine va_iast hx hb hK hP hD hS 1 0 rfl rfl (show ¬ ((0 : Int32) < 0 ∨ 3 ≤ (0 : Int32).toNatClampNeg) by decide) dX12_bad_9 (fun H locs hP hD hS => ?_)
  generalize (upd (fun _ => 0) (Int32.toNatClampNeg 0) 1) = f_1 at hP hD
  have hP : va_P (dC, dI) vwCl [(mo, .inr (12, [.ref nw, .ref kp, .ref ik, .ref mr, .long 0, .long 1, .ref mw, .long 0, .int 0, .int 0, .long 0, .long 0, .ref mq, .ref mz, .ref my, .int 0, .ref mb, .int 0, .int 0, .int 0, .int 0, .int 0, .ref mx, .ref mv])), (mr, .inl (cm, 3, .inl f_1))] H := hP
  have hD : va_D A [(mo, .inr (12, [.ref nw, .ref kp, .ref ik, .ref mr, .long 0, .long 1, .ref mw, .long 0, .int 0, .int 0, .long 0, .long 0, .ref mq, .ref mz, .ref my, .int 0, .ref mb, .int 0, .int 0, .int 0, .int 0, .int 0, .ref mx, .ref mv])), (mr, .inl (cm, 3, .inl f_1))] := hD
  refine lv_iload_n hx hb dX12_bad_10 rfl (lv_at hl 1 rfl) ?_
  exact W.iret (v := na) hx hb hr (fun t ht hW => ⟨⟨na, (), rfl, rfl, trivial⟩, hS.F ht⟩) hS.2.2 dX12_bad_11
theorem dX12_no_0 : decode cX12_no 0 = .ok (.aload_n 0, 1) := by decide +kernel
theorem dX12_no_1 : decode cX12_no 1 = .ok (.getfield 20, 3) := by decide +kernel
theorem dX12_no_4 : decode cX12_no 4 = .ok (.iconst 1, 1) := by decide +kernel
theorem dX12_no_5 : decode cX12_no 5 = .ok (.dup2, 1) := by decide +kernel
theorem dX12_no_6 : decode cX12_no 6 = .ok (.iaload, 1) := by decide +kernel
theorem dX12_no_7 : decode cX12_no 7 = .ok (.iconst 1, 1) := by decide +kernel
theorem dX12_no_8 : decode cX12_no 8 = .ok (.iadd, 1) := by decide +kernel
theorem dX12_no_9 : decode cX12_no 9 = .ok (.iastore, 1) := by decide +kernel
theorem dX12_no_10 : decode cX12_no 10 = .ok (.bipush (-3), 2) := by decide +kernel
theorem dX12_no_12 : decode cX12_no 12 = .ok (.ireturn, 1) := by decide +kernel
set_option maxRecDepth 20000 in
theorem iw_k_no_X12 : ∀ w ∈ wsX120, w ∈ wsX12_no := by decide +kernel
set_option maxHeartbeats 4000000 in
set_option maxRecDepth 100000 in
theorem k_no (l : Launch) (dC : Nat → ClassId) (dI : Nat → Nat → Nat) (mo : Nat) (nw : Nat) (kp : Nat) (ik : Nat) (mr : Nat) (mw : Nat) (mq : Nat) (mz : Nat) (my : Nat) (mb : Nat) (mx : Nat) (mv : Nat) (cm : ClassId) (sz : Nat) : Met l yX12_no wsX12_no ({ frames := 0, cells := 0, slots := 0, locals := 0 }) (va_Pc [.ref mo] (fun U => U.heap.size = sz ∧ va_P (dC, dI) vwCl [(mo, .inr (12, [.ref nw, .ref kp, .ref ik, .ref mr, .long 0, .long 1, .ref mw, .long 0, .int 0, .int 0, .long 0, .long 0, .ref mq, .ref mz, .ref my, .int 0, .ref mb, .int 0, .int 0, .int 0, .int 0, .int 0, .ref mx, .ref mv])), (mr, .inl (cm, 3, .inl (fun _ => 0)))] U.heap ∧ va_K (dC, dI) vwCl [(cm, .int)] U ∧ va_D (fun _ => True) [(mo, .inr (12, [.ref nw, .ref kp, .ref ik, .ref mr, .long 0, .long 1, .ref mw, .long 0, .int 0, .int 0, .long 0, .long 0, .ref mq, .ref mz, .ref my, .int 0, .ref mb, .int 0, .int 0, .int 0, .int 0, .int 0, .ref mx, .ref mv])), (mr, .inl (cm, 3, .inl (fun _ => 0)))])) (va_Qi (fun (r : Int32) (_ : Unit) => r = (-3)) (fun _ _ => True) (va_A [(mo, .inr (12, [.ref nw, .ref kp, .ref ik, .ref mr, .long 0, .long 1, .ref mw, .long 0, .int 0, .int 0, .long 0, .long 0, .ref mq, .ref mz, .ref my, .int 0, .ref mb, .int 0, .int 0, .int 0, .int 0, .int 0, .ref mx, .ref mv])), (mr, .inl (cm, 3, .inl (fun _ => 0)))] sz)) 0 0 (va_A [(mo, .inr (12, [.ref nw, .ref kp, .ref ik, .ref mr, .long 0, .long 1, .ref mw, .long 0, .int 0, .int 0, .long 0, .long 0, .ref mq, .ref mz, .ref my, .int 0, .ref mb, .int 0, .int 0, .int 0, .int 0, .int 0, .ref mx, .ref mv])), (mr, .inl (cm, 3, .inl (fun _ => 0)))] sz) := by
  refine Met.ofW (cc := cX12_no) (maxL := 1) (ret := (some .int)) (by decide) rfl ?_
  intro p e s m args below meth c s₁ B hml hv
  obtain ⟨rfl, hsz, hP, hK, hD0⟩ := hv
  have hx := B.exec
  have hb := B.bytes
  have hr := B.returns
  have hts := atoms_spec (ws := wsX12_no) B.pre
  have hown : s.vm.findClass RX12 = some m.cls := findClass_of_methodNamed B.named
  have hlocks := B.notSynchronized
  subst hsz
  have hD := hD0.self (sz := s.heap.size)
  generalize hAe : va_A [(mo, .inr (12, [.ref nw, .ref kp, .ref ik, .ref mr, .long 0, .long 1, .ref mw, .long 0, .int 0, .int 0, .long 0, .long 0, .ref mq, .ref mz, .ref my, .int 0, .ref mb, .int 0, .int 0, .int 0, .int 0, .int 0, .ref mx, .ref mv])), (mr, .inl (cm, 3, .inl (fun _ => 0)))] s.heap.size = A at hD ⊢
  have hA : ∀ q : Nat, s.heap.size ≤ q → A q := fun q h => by rw [← hAe]; exact Or.inr h
  have hS : va_S A s.heap s.heap [] := va_S.rf
  have hP : va_P (dC, dI) vwCl [(mo, .inr (12, [.ref nw, .ref kp, .ref ik, .ref mr, .long 0, .long 1, .ref mw, .long 0, .int 0, .int 0, .long 0, .long 0, .ref mq, .ref mz, .ref my, .int 0, .ref mb, .int 0, .int 0, .int 0, .int 0, .int 0, .ref mx, .ref mv])), (mr, .inl (cm, 3, .inl (fun _ => 0)))] s.heap := hP
  have hl := lv_entry ([.ref mo]) (n := 1) (Nat.le_of_ble_eq_true rfl)
  rw [lg_entry_eq]
  generalize (lg_sl ([.ref mo]) ++ List.replicate (1 - (lg_sl ([.ref mo])).length) Slot.unset).toArray = ls at hl ⊢
  have hl : lv_has ls 1 [(0, .ref mo)] := hl
  refine lv_aload_n hx hb dX12_no_0 rfl (lv_at hl 0 rfl) ?_
  refine va_get (D := (dC, dI)) (ci := 12) (v := .ref mr) (C := RX12) (T := TX12) (N := 24) hx hb hts iw_k_no_X12 hown hK hP 0 rfl rfl 3 (by decide) (hts (.fieldLink RX12 20 "ThriceCountedModel" "refused" "[I") (by decide +kernel)) (fun _ h9 => h9) rfl dX12_no_1 ?_
  refine lv_iconst (v := 1) hx hb dX12_no_4 (by decide) ?_
  refine lv_dup2_11 hx hb dX12_no_5 rfl rfl ?_
  refine va_iald hx hb hK hP 1 0 rfl rfl (show ¬ ((1 : Int32) < 0 ∨ 3 ≤ (1 : Int32).toNatClampNeg) by decide) dX12_no_6 ?_
  refine tz_i 0 rfl ?_
  refine lv_iconst (v := 1) hx hb dX12_no_7 (by decide) ?_
  refine lv_iadd hx hb dX12_no_8 ?_
  refine tz_i 1 (by decide) ?_
  refine va_iast hx hb hK hP hD hS 1 0 rfl rfl (show ¬ ((1 : Int32) < 0 ∨ 3 ≤ (1 : Int32).toNatClampNeg) by decide) dX12_no_9 (fun H locs hP hD hS => ?_)
  generalize (upd (fun _ => 0) (Int32.toNatClampNeg 1) 1) = f_1 at hP hD
  have hP : va_P (dC, dI) vwCl [(mo, .inr (12, [.ref nw, .ref kp, .ref ik, .ref mr, .long 0, .long 1, .ref mw, .long 0, .int 0, .int 0, .long 0, .long 0, .ref mq, .ref mz, .ref my, .int 0, .ref mb, .int 0, .int 0, .int 0, .int 0, .int 0, .ref mx, .ref mv])), (mr, .inl (cm, 3, .inl f_1))] H := hP
  have hD : va_D A [(mo, .inr (12, [.ref nw, .ref kp, .ref ik, .ref mr, .long 0, .long 1, .ref mw, .long 0, .int 0, .int 0, .long 0, .long 0, .ref mq, .ref mz, .ref my, .int 0, .ref mb, .int 0, .int 0, .int 0, .int 0, .int 0, .ref mx, .ref mv])), (mr, .inl (cm, 3, .inl f_1))] := hD
  refine lv_bipush (v := (-3)) hx hb dX12_no_10 (by decide) ?_
  exact W.iret (v := (-3)) hx hb hr (fun t ht hW => ⟨⟨(-3), (), rfl, rfl, trivial⟩, hS.F ht⟩) hS.2.2 dX12_no_12
set_option maxRecDepth 20000 in
theorem ggX12_isBundle_X12_in : GoodIn wsX12_isBundle wsX12_in := goodIn_r _ [5] (by decide +kernel) (by decide +kernel)
set_option maxRecDepth 20000 in
theorem gX12_isBundle_X12_in : GoodIn wsX12_isBundle (va_wsS RX12 49 yX12_in wsX12_in) := goodIn_app (goodIn_of _ (by decide +kernel)) ggX12_isBundle_X12_in
theorem dX12_isBundle_0 : decode cX12_isBundle 0 = .ok (.iload_n 1, 1) := by decide +kernel
theorem dX12_isBundle_1 : decode cX12_isBundle 1 = .ok (.i2l, 1) := by decide +kernel
theorem dX12_isBundle_2 : decode cX12_isBundle 2 = .ok (.lconst 0, 1) := by decide +kernel
theorem dX12_isBundle_3 : decode cX12_isBundle 3 = .ok (.aload_n 0, 1) := by decide +kernel
theorem dX12_isBundle_4 : decode cX12_isBundle 4 = .ok (.getfield 7, 3) := by decide +kernel
theorem dX12_isBundle_7 : decode cX12_isBundle 7 = .ok (.iconst 1, 1) := by decide +kernel
theorem dX12_isBundle_8 : decode cX12_isBundle 8 = .ok (.iaload, 1) := by decide +kernel
theorem dX12_isBundle_9 : decode cX12_isBundle 9 = .ok (.iconst 1, 1) := by decide +kernel
theorem dX12_isBundle_10 : decode cX12_isBundle 10 = .ok (.isub, 1) := by decide +kernel
theorem dX12_isBundle_11 : decode cX12_isBundle 11 = .ok (.i2l, 1) := by decide +kernel
theorem dX12_isBundle_12 : decode cX12_isBundle 12 = .ok (.invokestatic 49, 3) := by decide +kernel
theorem dX12_isBundle_15 : decode cX12_isBundle 15 = .ok (.ireturn, 1) := by decide +kernel
set_option maxRecDepth 20000 in
theorem iw_k_m_isBundle_X12 : ∀ w ∈ wsX120, w ∈ wsX12_isBundle := by decide +kernel
set_option maxHeartbeats 4000000 in
set_option maxRecDepth 100000 in
theorem k_m_isBundle (l : Launch) (dC : Nat → ClassId) (dI : Nat → Nat → Nat) (mo : Nat) (nw : Nat) (kp : Nat) (ik : Nat) (mr : Nat) (mw : Nat) (mq : Nat) (mz : Nat) (my : Nat) (mb : Nat) (mx : Nat) (mv : Nat) (cn : ClassId) (na : Int32) : Met l yX12_isBundle wsX12_isBundle ({ frames := 1, cells := 0, slots := 0, locals := 25 }) (va_Pc [.ref mo, .int na] (fun U => va_P (dC, dI) vwCl [(mo, .inr (12, [.ref nw, .ref kp, .ref ik, .ref mr, .long 0, .long 1, .ref mw, .long 0, .int 0, .int 0, .long 0, .long 0, .ref mq, .ref mz, .ref my, .int 0, .ref mb, .int 0, .int 0, .int 0, .int 0, .int 0, .ref mx, .ref mv])), (nw, .inl (cn, 350, .inl (fun _ => 0)))] U.heap ∧ va_K (dC, dI) vwCl [(cn, .int)] U)) (vp_Si (fun r => r = 0)) 0 0 (fun _ => False) := by
  refine Met.ofW (cc := cX12_isBundle) (maxL := 2) (ret := (some .boolean)) (by decide) rfl ?_
  intro p e s m args below meth c s₁ B hml hv
  obtain ⟨rfl, hP, hK⟩ := hv
  have hx := B.exec
  have hb := B.bytes
  have hr := B.returns
  have hts := atoms_spec (ws := wsX12_isBundle) B.pre
  have hown : s.vm.findClass RX12 = some m.cls := findClass_of_methodNamed B.named
  have hlocks := B.notSynchronized
  have hl := lv_entry ([.ref mo, .int na]) (n := 2) (Nat.le_of_ble_eq_true rfl)
  rw [lg_entry_eq]
  generalize (lg_sl ([.ref mo, .int na]) ++ List.replicate (2 - (lg_sl ([.ref mo, .int na])).length) Slot.unset).toArray = ls at hl ⊢
  have hl : lv_has ls 2 [(0, .ref mo), (1, .int na)] := hl
  refine lv_iload_n hx hb dX12_isBundle_0 rfl (lv_at hl 1 rfl) ?_
  refine lv_i2l (v := na.toInt64) hx hb dX12_isBundle_1 rfl ?_
  refine lv_lconst (v := 0) hx hb dX12_isBundle_2 (by decide) ?_
  refine lv_aload_n hx hb dX12_isBundle_3 rfl (lv_at hl 0 rfl) ?_
  refine va_get (D := (dC, dI)) (ci := 12) (v := .ref nw) (C := RX12) (T := TX12) (N := 24) hx hb hts iw_k_m_isBundle_X12 hown hK hP 0 rfl rfl 0 (by decide) (hts (.fieldLink RX12 7 "ThriceCountedModel" "now" "[I") (by decide +kernel)) (fun _ h9 => h9) rfl dX12_isBundle_4 ?_
  refine lv_iconst (v := 1) hx hb dX12_isBundle_7 (by decide) ?_
  refine va_iald hx hb hK hP 1 0 rfl rfl (show ¬ ((1 : Int32) < 0 ∨ 350 ≤ (1 : Int32).toNatClampNeg) by decide) dX12_isBundle_8 ?_
  refine tz_i 0 rfl ?_
  refine lv_iconst (v := 1) hx hb dX12_isBundle_9 (by decide) ?_
  refine lv_isub hx hb dX12_isBundle_10 ?_
  refine tz_i (-1) (by decide) ?_
  refine lv_i2l (v := (-1)) hx hb dX12_isBundle_11 (by decide) ?_
  refine vp_callSi (va_Run.run (va_runS (As := [.long na.toInt64, .long 0, .long (-1)]) (rest := []) ⟨hx, hb, hml, hown, hts⟩ (k_in l dC dI na.toInt64 0 (-1)) (va_cwS 3 hts gX12_isBundle_X12_in rfl rfl rfl (by decide +kernel) ⟨Nat.le_of_ble_eq_true rfl, Nat.le_of_ble_eq_true rfl⟩) ⟨fun a U g mk q => ⟨q.1, trivial⟩, fun U hU hW => ⟨rfl, trivial⟩⟩ rfl rfl hl.1 rfl (lv_room (Nat.le_of_ble_eq_true rfl)) dX12_isBundle_12 ⟨Nat.le_of_ble_eq_true rfl, Nat.le_of_ble_eq_true rfl⟩)) (fun r_1 hw_2 => ?_)
  by_cases hc_3 : 0 ≤ na ∧ na ≤ (-1)
  · obtain rfl : 1 = r_1 := (hw_2.trans (if_pos ((tz_in64 (by first | rfl | decide) rfl (by first | rfl | decide)).mpr hc_3))).symm
    exact (tz_emp hc_3).elim
  · obtain rfl : 0 = r_1 := (hw_2.trans (if_neg (fun z => hc_3 ((tz_in64 (by first | rfl | decide) rfl (by first | rfl | decide)).mp z)))).symm
    exact W.zret (v := 0) hx hb hr (by decide) (fun t ht hW => ⟨0, rfl, rfl, ht⟩) (fun _ h => absurd h List.not_mem_nil) dX12_isBundle_15
set_option maxRecDepth 20000 in
theorem ggX12_isCount_X12_in : GoodIn wsX12_isCount wsX12_in := goodIn_r _ [5] (by decide +kernel) (by decide +kernel)
set_option maxRecDepth 20000 in
theorem gX12_isCount_X12_in : GoodIn wsX12_isCount (va_wsS RX12 49 yX12_in wsX12_in) := goodIn_app (goodIn_of _ (by decide +kernel)) ggX12_isCount_X12_in
theorem dX12_isCount_0 : decode cX12_isCount 0 = .ok (.iload_n 1, 1) := by decide +kernel
theorem dX12_isCount_1 : decode cX12_isCount 1 = .ok (.i2l, 1) := by decide +kernel
theorem dX12_isCount_2 : decode cX12_isCount 2 = .ok (.lconst 0, 1) := by decide +kernel
theorem dX12_isCount_3 : decode cX12_isCount 3 = .ok (.aload_n 0, 1) := by decide +kernel
theorem dX12_isCount_4 : decode cX12_isCount 4 = .ok (.getfield 7, 3) := by decide +kernel
theorem dX12_isCount_7 : decode cX12_isCount 7 = .ok (.iconst 2, 1) := by decide +kernel
theorem dX12_isCount_8 : decode cX12_isCount 8 = .ok (.iaload, 1) := by decide +kernel
theorem dX12_isCount_9 : decode cX12_isCount 9 = .ok (.iconst 1, 1) := by decide +kernel
theorem dX12_isCount_10 : decode cX12_isCount 10 = .ok (.isub, 1) := by decide +kernel
theorem dX12_isCount_11 : decode cX12_isCount 11 = .ok (.i2l, 1) := by decide +kernel
theorem dX12_isCount_12 : decode cX12_isCount 12 = .ok (.invokestatic 49, 3) := by decide +kernel
theorem dX12_isCount_15 : decode cX12_isCount 15 = .ok (.ireturn, 1) := by decide +kernel
set_option maxRecDepth 20000 in
theorem iw_k_m_isCount_X12 : ∀ w ∈ wsX120, w ∈ wsX12_isCount := by decide +kernel
set_option maxHeartbeats 4000000 in
set_option maxRecDepth 100000 in
theorem k_m_isCount (l : Launch) (dC : Nat → ClassId) (dI : Nat → Nat → Nat) (mo : Nat) (nw : Nat) (kp : Nat) (ik : Nat) (mr : Nat) (mw : Nat) (mq : Nat) (mz : Nat) (my : Nat) (mb : Nat) (mx : Nat) (mv : Nat) (cn : ClassId) (na : Int32) : Met l yX12_isCount wsX12_isCount ({ frames := 1, cells := 0, slots := 0, locals := 25 }) (va_Pc [.ref mo, .int na] (fun U => va_P (dC, dI) vwCl [(mo, .inr (12, [.ref nw, .ref kp, .ref ik, .ref mr, .long 0, .long 1, .ref mw, .long 0, .int 0, .int 0, .long 0, .long 0, .ref mq, .ref mz, .ref my, .int 0, .ref mb, .int 0, .int 0, .int 0, .int 0, .int 0, .ref mx, .ref mv])), (nw, .inl (cn, 350, .inl (fun _ => 0)))] U.heap ∧ va_K (dC, dI) vwCl [(cn, .int)] U)) (vp_Si (fun r => r = 0)) 0 0 (fun _ => False) := by
  refine Met.ofW (cc := cX12_isCount) (maxL := 2) (ret := (some .boolean)) (by decide) rfl ?_
  intro p e s m args below meth c s₁ B hml hv
  obtain ⟨rfl, hP, hK⟩ := hv
  have hx := B.exec
  have hb := B.bytes
  have hr := B.returns
  have hts := atoms_spec (ws := wsX12_isCount) B.pre
  have hown : s.vm.findClass RX12 = some m.cls := findClass_of_methodNamed B.named
  have hlocks := B.notSynchronized
  have hl := lv_entry ([.ref mo, .int na]) (n := 2) (Nat.le_of_ble_eq_true rfl)
  rw [lg_entry_eq]
  generalize (lg_sl ([.ref mo, .int na]) ++ List.replicate (2 - (lg_sl ([.ref mo, .int na])).length) Slot.unset).toArray = ls at hl ⊢
  have hl : lv_has ls 2 [(0, .ref mo), (1, .int na)] := hl
  refine lv_iload_n hx hb dX12_isCount_0 rfl (lv_at hl 1 rfl) ?_
  refine lv_i2l (v := na.toInt64) hx hb dX12_isCount_1 rfl ?_
  refine lv_lconst (v := 0) hx hb dX12_isCount_2 (by decide) ?_
  refine lv_aload_n hx hb dX12_isCount_3 rfl (lv_at hl 0 rfl) ?_
  refine va_get (D := (dC, dI)) (ci := 12) (v := .ref nw) (C := RX12) (T := TX12) (N := 24) hx hb hts iw_k_m_isCount_X12 hown hK hP 0 rfl rfl 0 (by decide) (hts (.fieldLink RX12 7 "ThriceCountedModel" "now" "[I") (by decide +kernel)) (fun _ h9 => h9) rfl dX12_isCount_4 ?_
  refine lv_iconst (v := 2) hx hb dX12_isCount_7 (by decide) ?_
  refine va_iald hx hb hK hP 1 0 rfl rfl (show ¬ ((2 : Int32) < 0 ∨ 350 ≤ (2 : Int32).toNatClampNeg) by decide) dX12_isCount_8 ?_
  refine tz_i 0 rfl ?_
  refine lv_iconst (v := 1) hx hb dX12_isCount_9 (by decide) ?_
  refine lv_isub hx hb dX12_isCount_10 ?_
  refine tz_i (-1) (by decide) ?_
  refine lv_i2l (v := (-1)) hx hb dX12_isCount_11 (by decide) ?_
  refine vp_callSi (va_Run.run (va_runS (As := [.long na.toInt64, .long 0, .long (-1)]) (rest := []) ⟨hx, hb, hml, hown, hts⟩ (k_in l dC dI na.toInt64 0 (-1)) (va_cwS 3 hts gX12_isCount_X12_in rfl rfl rfl (by decide +kernel) ⟨Nat.le_of_ble_eq_true rfl, Nat.le_of_ble_eq_true rfl⟩) ⟨fun a U g mk q => ⟨q.1, trivial⟩, fun U hU hW => ⟨rfl, trivial⟩⟩ rfl rfl hl.1 rfl (lv_room (Nat.le_of_ble_eq_true rfl)) dX12_isCount_12 ⟨Nat.le_of_ble_eq_true rfl, Nat.le_of_ble_eq_true rfl⟩)) (fun r_1 hw_2 => ?_)
  by_cases hc_3 : 0 ≤ na ∧ na ≤ (-1)
  · obtain rfl : 1 = r_1 := (hw_2.trans (if_pos ((tz_in64 (by first | rfl | decide) rfl (by first | rfl | decide)).mpr hc_3))).symm
    exact (tz_emp hc_3).elim
  · obtain rfl : 0 = r_1 := (hw_2.trans (if_neg (fun z => hc_3 ((tz_in64 (by first | rfl | decide) rfl (by first | rfl | decide)).mp z)))).symm
    exact W.zret (v := 0) hx hb hr (by decide) (fun t ht hW => ⟨0, rfl, rfl, ht⟩) (fun _ h => absurd h List.not_mem_nil) dX12_isCount_15
set_option maxRecDepth 20000 in
theorem ggX12_isWay_X12_in : GoodIn wsX12_isWay wsX12_in := goodIn_r _ [5] (by decide +kernel) (by decide +kernel)
set_option maxRecDepth 20000 in
theorem gX12_isWay_X12_in : GoodIn wsX12_isWay (va_wsS RX12 49 yX12_in wsX12_in) := goodIn_app (goodIn_of _ (by decide +kernel)) ggX12_isWay_X12_in
theorem dX12_isWay_0 : decode cX12_isWay 0 = .ok (.iload_n 0, 1) := by decide +kernel
theorem dX12_isWay_1 : decode cX12_isWay 1 = .ok (.i2l, 1) := by decide +kernel
theorem dX12_isWay_2 : decode cX12_isWay 2 = .ok (.lconst 0, 1) := by decide +kernel
theorem dX12_isWay_3 : decode cX12_isWay 3 = .ok (.ldc2_w 53, 3) := by decide +kernel
theorem dX12_isWay_6 : decode cX12_isWay 6 = .ok (.invokestatic 49, 3) := by decide +kernel
theorem dX12_isWay_9 : decode cX12_isWay 9 = .ok (.ireturn, 1) := by decide +kernel
set_option maxHeartbeats 4000000 in
set_option maxRecDepth 100000 in
theorem k_m_isWay (l : Launch) (dC : Nat → ClassId) (dI : Nat → Nat → Nat) (na : Int32) : Met l yX12_isWay wsX12_isWay ({ frames := 1, cells := 0, slots := 0, locals := 25 }) (va_Pc [.int na] (fun _ => True)) (vp_Si (fun r => r = if 0 ≤ na ∧ na ≤ 5 then 1 else 0)) 0 0 (fun _ => False) := by
  refine Met.ofW (cc := cX12_isWay) (maxL := 1) (ret := (some .boolean)) (by decide) rfl ?_
  intro p e s m args below meth c s₁ B hml hv
  obtain ⟨rfl, -⟩ := hv
  have hx := B.exec
  have hb := B.bytes
  have hr := B.returns
  have hts := atoms_spec (ws := wsX12_isWay) B.pre
  have hown : s.vm.findClass RX12 = some m.cls := findClass_of_methodNamed B.named
  have hlocks := B.notSynchronized
  have hl := lv_entry ([.int na]) (n := 1) (Nat.le_of_ble_eq_true rfl)
  rw [lg_entry_eq]
  generalize (lg_sl ([.int na]) ++ List.replicate (1 - (lg_sl ([.int na])).length) Slot.unset).toArray = ls at hl ⊢
  have hl : lv_has ls 1 [(0, .int na)] := hl
  refine lv_iload_n hx hb dX12_isWay_0 rfl (lv_at hl 0 rfl) ?_
  refine lv_i2l (v := na.toInt64) hx hb dX12_isWay_1 rfl ?_
  refine lv_lconst (v := 0) hx hb dX12_isWay_2 (by decide) ?_
  refine lv_ldc2 hx hb hown (hts (.constantLong RX12 53 (5)) (by decide +kernel)) dX12_isWay_3 ?_
  refine vp_callSi (va_Run.run (va_runS (As := [.long na.toInt64, .long 0, .long 5]) (rest := []) ⟨hx, hb, hml, hown, hts⟩ (k_in l dC dI na.toInt64 0 5) (va_cwS 3 hts gX12_isWay_X12_in rfl rfl rfl (by decide +kernel) ⟨Nat.le_of_ble_eq_true rfl, Nat.le_of_ble_eq_true rfl⟩) ⟨fun a U g mk q => ⟨q.1, trivial⟩, fun U hU hW => ⟨rfl, trivial⟩⟩ rfl rfl hl.1 rfl (lv_room (Nat.le_of_ble_eq_true rfl)) dX12_isWay_6 ⟨Nat.le_of_ble_eq_true rfl, Nat.le_of_ble_eq_true rfl⟩)) (fun r_1 hw_2 => ?_)
  by_cases hc_3 : 0 ≤ na ∧ na ≤ 5
  · obtain rfl : 1 = r_1 := (hw_2.trans (if_pos ((tz_in64 (by first | rfl | decide) rfl (by first | rfl | decide)).mpr hc_3))).symm
    exact W.zret (v := 1) hx hb hr (by decide) (fun t ht hW => ⟨1, rfl, (if_pos hc_3).symm, ht⟩) (fun _ h => absurd h List.not_mem_nil) dX12_isWay_9
  · obtain rfl : 0 = r_1 := (hw_2.trans (if_neg (fun z => hc_3 ((tz_in64 (by first | rfl | decide) rfl (by first | rfl | decide)).mp z)))).symm
    exact W.zret (v := 0) hx hb hr (by decide) (fun t ht hW => ⟨0, rfl, (if_neg hc_3).symm, ht⟩) (fun _ h => absurd h List.not_mem_nil) dX12_isWay_9
set_option maxRecDepth 20000 in
theorem ggX12_isOff_X12_in : GoodIn wsX12_isOff wsX12_in := goodIn_r _ [6] (by decide +kernel) (by decide +kernel)
set_option maxRecDepth 20000 in
theorem gX12_isOff_X12_in : GoodIn wsX12_isOff (va_wsS RX12 49 yX12_in wsX12_in) := goodIn_app (goodIn_of _ (by decide +kernel)) ggX12_isOff_X12_in
theorem dX12_isOff_0 : decode cX12_isOff 0 = .ok (.iload_n 0, 1) := by decide +kernel
theorem dX12_isOff_1 : decode cX12_isOff 1 = .ok (.i2l, 1) := by decide +kernel
theorem dX12_isOff_2 : decode cX12_isOff 2 = .ok (.ldc2_w 208, 3) := by decide +kernel
theorem dX12_isOff_5 : decode cX12_isOff 5 = .ok (.ldc2_w 210, 3) := by decide +kernel
theorem dX12_isOff_8 : decode cX12_isOff 8 = .ok (.invokestatic 49, 3) := by decide +kernel
theorem dX12_isOff_11 : decode cX12_isOff 11 = .ok (.ireturn, 1) := by decide +kernel
set_option maxHeartbeats 4000000 in
set_option maxRecDepth 100000 in
theorem k_m_isOff (l : Launch) (dC : Nat → ClassId) (dI : Nat → Nat → Nat) (na : Int32) : Met l yX12_isOff wsX12_isOff ({ frames := 1, cells := 0, slots := 0, locals := 25 }) (va_Pc [.int na] (fun _ => True)) (vp_Si (fun r => r = if (-198) ≤ na ∧ na ≤ 198 then 1 else 0)) 0 0 (fun _ => False) := by
  refine Met.ofW (cc := cX12_isOff) (maxL := 1) (ret := (some .boolean)) (by decide) rfl ?_
  intro p e s m args below meth c s₁ B hml hv
  obtain ⟨rfl, -⟩ := hv
  have hx := B.exec
  have hb := B.bytes
  have hr := B.returns
  have hts := atoms_spec (ws := wsX12_isOff) B.pre
  have hown : s.vm.findClass RX12 = some m.cls := findClass_of_methodNamed B.named
  have hlocks := B.notSynchronized
  have hl := lv_entry ([.int na]) (n := 1) (Nat.le_of_ble_eq_true rfl)
  rw [lg_entry_eq]
  generalize (lg_sl ([.int na]) ++ List.replicate (1 - (lg_sl ([.int na])).length) Slot.unset).toArray = ls at hl ⊢
  have hl : lv_has ls 1 [(0, .int na)] := hl
  refine lv_iload_n hx hb dX12_isOff_0 rfl (lv_at hl 0 rfl) ?_
  refine lv_i2l (v := na.toInt64) hx hb dX12_isOff_1 rfl ?_
  refine lv_ldc2 hx hb hown (hts (.constantLong RX12 208 (-198)) (by decide +kernel)) dX12_isOff_2 ?_
  refine lv_ldc2 hx hb hown (hts (.constantLong RX12 210 (198)) (by decide +kernel)) dX12_isOff_5 ?_
  refine vp_callSi (va_Run.run (va_runS (As := [.long na.toInt64, .long (-198), .long 198]) (rest := []) ⟨hx, hb, hml, hown, hts⟩ (k_in l dC dI na.toInt64 (-198) 198) (va_cwS 3 hts gX12_isOff_X12_in rfl rfl rfl (by decide +kernel) ⟨Nat.le_of_ble_eq_true rfl, Nat.le_of_ble_eq_true rfl⟩) ⟨fun a U g mk q => ⟨q.1, trivial⟩, fun U hU hW => ⟨rfl, trivial⟩⟩ rfl rfl hl.1 rfl (lv_room (Nat.le_of_ble_eq_true rfl)) dX12_isOff_8 ⟨Nat.le_of_ble_eq_true rfl, Nat.le_of_ble_eq_true rfl⟩)) (fun r_1 hw_2 => ?_)
  by_cases hc_3 : (-198) ≤ na ∧ na ≤ 198
  · obtain rfl : 1 = r_1 := (hw_2.trans (if_pos ((tz_in64 (by first | rfl | decide) rfl (by first | rfl | decide)).mpr hc_3))).symm
    exact W.zret (v := 1) hx hb hr (by decide) (fun t ht hW => ⟨1, rfl, (if_pos hc_3).symm, ht⟩) (fun _ h => absurd h List.not_mem_nil) dX12_isOff_11
  · obtain rfl : 0 = r_1 := (hw_2.trans (if_neg (fun z => hc_3 ((tz_in64 (by first | rfl | decide) rfl (by first | rfl | decide)).mp z)))).symm
    exact W.zret (v := 0) hx hb hr (by decide) (fun t ht hW => ⟨0, rfl, (if_neg hc_3).symm, ht⟩) (fun _ h => absurd h List.not_mem_nil) dX12_isOff_11
theorem dX12_begin_0 : decode cX12_begin 0 = .ok (.iconst 0, 1) := by decide +kernel
theorem dX12_begin_1 : decode cX12_begin 1 = .ok (.istore_n 1, 1) := by decide +kernel
theorem dX12_begin_2 : decode cX12_begin 2 = .ok (.iload_n 1, 1) := by decide +kernel
theorem dX12_begin_3 : decode cX12_begin 3 = .ok (.bipush 86, 2) := by decide +kernel
theorem dX12_begin_5 : decode cX12_begin 5 = .ok (.if_icmp .ge 13, 3) := by decide +kernel
theorem dX12_begin_18 : decode cX12_begin 18 = .ok (.return_, 1) := by decide +kernel
theorem dX12_begin_8 : decode cX12_begin 8 = .ok (.aload_n 0, 1) := by decide +kernel
theorem dX12_begin_9 : decode cX12_begin 9 = .ok (.iload_n 1, 1) := by decide +kernel
theorem dX12_begin_10 : decode cX12_begin 10 = .ok (.iconst 0, 1) := by decide +kernel
theorem dX12_begin_11 : decode cX12_begin 11 = .ok (.iastore, 1) := by decide +kernel
theorem dX12_begin_12 : decode cX12_begin 12 = .ok (.iinc 1 1, 3) := by decide +kernel
theorem dX12_begin_15 : decode cX12_begin 15 = .ok (.goto (-13), 3) := by decide +kernel
set_option maxHeartbeats 4000000 in
set_option maxRecDepth 100000 in
theorem k_begin (l : Launch) (dC : Nat → ClassId) (dI : Nat → Nat → Nat) (ta : Nat) (ca : ClassId) (ff : Nat → Int32) (sz : Nat) : Met l yX12_begin wsX12_begin ({ frames := 0, cells := 0, slots := 0, locals := 0 }) (va_Pc [.ref ta] (fun U => U.heap.size = sz ∧ va_P (dC, dI) vwCl [(ta, .inl (ca, 350, .inl ff))] U.heap ∧ va_K (dC, dI) vwCl [(ca, .int)] U ∧ va_D (fun _ => True) [(ta, .inl (ca, 350, .inl ff))])) (va_Qv (fun (_ : Unit) => True) (fun _ _ => True) (va_A [(ta, .inl (ca, 350, .inl ff))] sz)) 0 0 (va_A [(ta, .inl (ca, 350, .inl ff))] sz) := by
  refine Met.ofW (cc := cX12_begin) (maxL := 2) (ret := none) (by decide) rfl ?_
  intro p e s m args below meth c s₁ B hml hv
  obtain ⟨rfl, hsz, hP, hK, hD0⟩ := hv
  have hx := B.exec
  have hb := B.bytes
  have hr := B.returns
  have hts := atoms_spec (ws := wsX12_begin) B.pre
  have hown : s.vm.findClass RX12 = some m.cls := findClass_of_methodNamed B.named
  have hlocks := B.notSynchronized
  subst hsz
  have hD := hD0.self (sz := s.heap.size)
  generalize hAe : va_A [(ta, .inl (ca, 350, .inl ff))] s.heap.size = A at hD ⊢
  have hA : ∀ q : Nat, s.heap.size ≤ q → A q := fun q h => by rw [← hAe]; exact Or.inr h
  have hS : va_S A s.heap s.heap [] := va_S.rf
  have hP : va_P (dC, dI) vwCl [(ta, .inl (ca, 350, .inl ff))] s.heap := hP
  have hl := lv_entry ([.ref ta]) (n := 2) (Nat.le_of_ble_eq_true rfl)
  rw [lg_entry_eq]
  generalize (lg_sl ([.ref ta]) ++ List.replicate (2 - (lg_sl ([.ref ta])).length) Slot.unset).toArray = ls at hl ⊢
  have hl : lv_has ls 2 [(0, .ref ta)] := hl
  refine lv_iconst (v := 0) hx hb dX12_begin_0 (by decide) ?_
  refine lv_istore_n (lv' := [(1, .int 0), (0, .ref ta)]) hx hb dX12_begin_1 rfl hl (by decide) rfl (fun ls hl => ?_)
  refine tz_for (σ := Int32 × (Nat → Int32) × Heap × List Loc × Array Slot) (fun x => W p l e _ s m _ below meth c x.2.2.1 x.2.2.2.1 _ _ _ (F0 m 2 x.2.2.2.2 [])) (fun i x => x.1 = nI i ∧ va_P (dC, dI) vwCl [(ta, .inl (ca, 350, .inl x.2.1))] x.2.2.1 ∧ va_D A [(ta, .inl (ca, 350, .inl x.2.1))] ∧ va_S A s.heap x.2.2.1 x.2.2.2.1 ∧ lv_has x.2.2.2.2 2 [(1, .int x.1), (0, .ref ta)]) 86 ?_ ?_ (0, ff, s.heap, [], ls) ⟨rfl, hP, hD, hS, lv_sub hl [0, 1] rfl⟩
  · rintro ⟨kk, ff, H, locs, ls⟩ ⟨ek, hP, hD, hS, hl⟩
    dsimp only at ek hP hD hS hl ⊢
    obtain rfl : 86 = kk := ek.symm
    refine lv_iload_n hx hb dX12_begin_2 rfl (lv_at hl 0 rfl) ?_
    refine lv_bipush (v := 86) hx hb dX12_begin_3 (by decide) ?_
    refine lv_icmp_ge (tgt := 18) hx hb dX12_begin_5 (by decide) (fun c_1 => ?_) (fun c_1 => ?_)
    · exact W.vret hx hb hr (fun t ht hW => ⟨⟨(), rfl, trivial, trivial⟩, hS.F ht⟩) hS.2.2 dX12_begin_18
    · exact absurd c_1 (by decide)
  · rintro ii ⟨kk, ff, H, locs, ls⟩ hi ⟨ek, hP, hD, hS, hl⟩ ih
    dsimp only at ek hP hD hS hl ⊢
    refine lv_iload_n hx hb dX12_begin_2 rfl (lv_at hl 0 rfl) ?_
    refine lv_bipush (v := 86) hx hb dX12_begin_3 (by decide) ?_
    refine lv_icmp_ge (tgt := 18) hx hb dX12_begin_5 (by decide) (fun c_2 => ?_) (fun c_2 => ?_)
    · exact absurd c_2 (by rw [ek]; exact nI_ge (b := 86) hi (by decide))
    · refine lv_aload_n hx hb dX12_begin_8 rfl (lv_at hl 1 rfl) ?_
      refine lv_iload_n hx hb dX12_begin_9 rfl (lv_at hl 0 rfl) ?_
      refine lv_iconst (v := 0) hx hb dX12_begin_10 (by decide) ?_
      refine va_iast hx hb hK hP hD hS 0 0 rfl rfl (by rw [ek]; exact vp_in_nI (Nat.lt_of_lt_of_le hi (by decide)) (by decide)) dX12_begin_11 (fun H locs hP hD hS => ?_)
      generalize (upd ff (Int32.toNatClampNeg kk) 0) = f_3 at hP hD
      have hP : va_P (dC, dI) vwCl [(ta, .inl (ca, 350, .inl f_3))] H := hP
      have hD : va_D A [(ta, .inl (ca, 350, .inl f_3))] := hD
      refine lv_iinc (v := (kk + 1)) (lv' := [(1, .int (kk + 1)), (0, .ref ta)]) hx hb dX12_begin_12 hl (k := 0) rfl rfl (by decide) rfl (fun ls hl => ?_)
      refine lv_goto (tgt := 2) hx hb dX12_begin_15 (by decide) ?_
      exact ih (kk + 1, f_3, H, locs, ls) ⟨by rw [ek]; exact nI_1 ii, hP, hD, hS, lv_sub hl [0, 1] rfl⟩
theorem dX12_layClerk_0 : decode cX12_layClerk 0 = .ok (.aload_n 0, 1) := by decide +kernel
theorem dX12_layClerk_1 : decode cX12_layClerk 1 = .ok (.iconst 5, 1) := by decide +kernel
theorem dX12_layClerk_2 : decode cX12_layClerk 2 = .ok (.aload_n 0, 1) := by decide +kernel
theorem dX12_layClerk_3 : decode cX12_layClerk 3 = .ok (.iconst 0, 1) := by decide +kernel
theorem dX12_layClerk_4 : decode cX12_layClerk 4 = .ok (.iaload, 1) := by decide +kernel
theorem dX12_layClerk_5 : decode cX12_layClerk 5 = .ok (.iadd, 1) := by decide +kernel
theorem dX12_layClerk_6 : decode cX12_layClerk 6 = .ok (.iload_n 1, 1) := by decide +kernel
theorem dX12_layClerk_7 : decode cX12_layClerk 7 = .ok (.iastore, 1) := by decide +kernel
theorem dX12_layClerk_8 : decode cX12_layClerk 8 = .ok (.aload_n 0, 1) := by decide +kernel
theorem dX12_layClerk_9 : decode cX12_layClerk 9 = .ok (.iconst 0, 1) := by decide +kernel
theorem dX12_layClerk_10 : decode cX12_layClerk 10 = .ok (.dup2, 1) := by decide +kernel
theorem dX12_layClerk_11 : decode cX12_layClerk 11 = .ok (.iaload, 1) := by decide +kernel
theorem dX12_layClerk_12 : decode cX12_layClerk 12 = .ok (.iconst 1, 1) := by decide +kernel
theorem dX12_layClerk_13 : decode cX12_layClerk 13 = .ok (.iadd, 1) := by decide +kernel
theorem dX12_layClerk_14 : decode cX12_layClerk 14 = .ok (.iastore, 1) := by decide +kernel
theorem dX12_layClerk_15 : decode cX12_layClerk 15 = .ok (.return_, 1) := by decide +kernel
set_option maxHeartbeats 4000000 in
set_option maxRecDepth 100000 in
theorem k_layClerk (l : Launch) (dC : Nat → ClassId) (dI : Nat → Nat → Nat) (ta : Nat) (ca : ClassId) (na : Int32) (sz : Nat) : Met l yX12_layClerk wsX12_layClerk ({ frames := 0, cells := 0, slots := 0, locals := 0 }) (va_Pc [.ref ta, .int na] (fun U => U.heap.size = sz ∧ va_P (dC, dI) vwCl [(ta, .inl (ca, 350, .inl (fun _ => 0)))] U.heap ∧ va_K (dC, dI) vwCl [(ca, .int)] U ∧ va_D (fun _ => True) [(ta, .inl (ca, 350, .inl (fun _ => 0)))])) (va_Qv (fun (_ : Unit) => True) (fun _ t => va_P (dC, dI) vwCl [(ta, .inl (ca, 350, .inl (upd (upd (fun _ => 0) (Int32.toNatClampNeg 5) na) (Int32.toNatClampNeg 0) 1)))] t.heap ∧ va_K (dC, dI) vwCl [(ca, .int)] t ∧ va_D (va_A [(ta, .inl (ca, 350, .inl (fun _ => 0)))] sz) [(ta, .inl (ca, 350, .inl (upd (upd (fun _ => 0) (Int32.toNatClampNeg 5) na) (Int32.toNatClampNeg 0) 1)))]) (va_A [(ta, .inl (ca, 350, .inl (fun _ => 0)))] sz)) 0 0 (va_A [(ta, .inl (ca, 350, .inl (fun _ => 0)))] sz) := by
  refine Met.ofW (cc := cX12_layClerk) (maxL := 2) (ret := none) (by decide) rfl ?_
  intro p e s m args below meth c s₁ B hml hv
  obtain ⟨rfl, hsz, hP, hK, hD0⟩ := hv
  have hx := B.exec
  have hb := B.bytes
  have hr := B.returns
  have hts := atoms_spec (ws := wsX12_layClerk) B.pre
  have hown : s.vm.findClass RX12 = some m.cls := findClass_of_methodNamed B.named
  have hlocks := B.notSynchronized
  subst hsz
  have hD := hD0.self (sz := s.heap.size)
  generalize hAe : va_A [(ta, .inl (ca, 350, .inl (fun _ => 0)))] s.heap.size = A at hD ⊢
  have hA : ∀ q : Nat, s.heap.size ≤ q → A q := fun q h => by rw [← hAe]; exact Or.inr h
  have hS : va_S A s.heap s.heap [] := va_S.rf
  have hP : va_P (dC, dI) vwCl [(ta, .inl (ca, 350, .inl (fun _ => 0)))] s.heap := hP
  have hl := lv_entry ([.ref ta, .int na]) (n := 2) (Nat.le_of_ble_eq_true rfl)
  rw [lg_entry_eq]
  generalize (lg_sl ([.ref ta, .int na]) ++ List.replicate (2 - (lg_sl ([.ref ta, .int na])).length) Slot.unset).toArray = ls at hl ⊢
  have hl : lv_has ls 2 [(0, .ref ta), (1, .int na)] := hl
  refine lv_aload_n hx hb dX12_layClerk_0 rfl (lv_at hl 0 rfl) ?_
  refine lv_iconst (v := 5) hx hb dX12_layClerk_1 (by decide) ?_
  refine lv_aload_n hx hb dX12_layClerk_2 rfl (lv_at hl 0 rfl) ?_
  refine lv_iconst (v := 0) hx hb dX12_layClerk_3 (by decide) ?_
  refine va_iald hx hb hK hP 0 0 rfl rfl (show ¬ ((0 : Int32) < 0 ∨ 350 ≤ (0 : Int32).toNatClampNeg) by decide) dX12_layClerk_4 ?_
  refine tz_i 0 rfl ?_
  refine lv_iadd hx hb dX12_layClerk_5 ?_
  refine tz_i 5 (by decide) ?_
  refine lv_iload_n hx hb dX12_layClerk_6 rfl (lv_at hl 1 rfl) ?_
  refine va_iast hx hb hK hP hD hS 0 0 rfl rfl (show ¬ ((5 : Int32) < 0 ∨ 350 ≤ (5 : Int32).toNatClampNeg) by decide) dX12_layClerk_7 (fun H locs hP hD hS => ?_)
  have hP : va_P (dC, dI) vwCl [(ta, .inl (ca, 350, .inl (upd (fun _ => 0) (Int32.toNatClampNeg 5) na)))] H := hP
  have hD : va_D A [(ta, .inl (ca, 350, .inl (upd (fun _ => 0) (Int32.toNatClampNeg 5) na)))] := hD
  refine lv_aload_n hx hb dX12_layClerk_8 rfl (lv_at hl 0 rfl) ?_
  refine lv_iconst (v := 0) hx hb dX12_layClerk_9 (by decide) ?_
  refine lv_dup2_11 hx hb dX12_layClerk_10 rfl rfl ?_
  refine va_iald hx hb hK hP 0 0 rfl rfl (show ¬ ((0 : Int32) < 0 ∨ 350 ≤ (0 : Int32).toNatClampNeg) by decide) dX12_layClerk_11 ?_
  refine tz_i 0 rfl ?_
  refine lv_iconst (v := 1) hx hb dX12_layClerk_12 (by decide) ?_
  refine lv_iadd hx hb dX12_layClerk_13 ?_
  refine tz_i 1 (by decide) ?_
  refine va_iast hx hb hK hP hD hS 0 0 rfl rfl (show ¬ ((0 : Int32) < 0 ∨ 350 ≤ (0 : Int32).toNatClampNeg) by decide) dX12_layClerk_14 (fun H locs hP hD hS => ?_)
  have hP : va_P (dC, dI) vwCl [(ta, .inl (ca, 350, .inl (upd (upd (fun _ => 0) (Int32.toNatClampNeg 5) na) (Int32.toNatClampNeg 0) 1)))] H := hP
  have hD : va_D A [(ta, .inl (ca, 350, .inl (upd (upd (fun _ => 0) (Int32.toNatClampNeg 5) na) (Int32.toNatClampNeg 0) 1)))] := hD
  have hP9 := hP.sub (ws' := [(ta, .inl (ca, 350, .inl (upd (upd (fun _ => 0) (Int32.toNatClampNeg 5) na) (Int32.toNatClampNeg 0) 1)))]) [0] rfl
  have hD9 := hD.sub (ws' := [(ta, .inl (ca, 350, .inl (upd (upd (fun _ => 0) (Int32.toNatClampNeg 5) na) (Int32.toNatClampNeg 0) 1)))]) [0] (by decide) rfl
  have hK9 := hK.sub (tys' := [(ca, .int)]) [0] rfl
  exact W.vret hx hb hr (fun t ht hW => ⟨⟨(), rfl, trivial, by rw [ht]; exact hP9, va_K.moved hW.alike hK9, hD9⟩, hS.F ht⟩) hS.2.2 dX12_layClerk_15
theorem dX12_layBundle_0 : decode cX12_layBundle 0 = .ok (.bipush 10, 2) := by decide +kernel
theorem dX12_layBundle_2 : decode cX12_layBundle 2 = .ok (.iconst 4, 1) := by decide +kernel
theorem dX12_layBundle_3 : decode cX12_layBundle 3 = .ok (.aload_n 0, 1) := by decide +kernel
theorem dX12_layBundle_4 : decode cX12_layBundle 4 = .ok (.iconst 1, 1) := by decide +kernel
theorem dX12_layBundle_5 : decode cX12_layBundle 5 = .ok (.iaload, 1) := by decide +kernel
theorem dX12_layBundle_6 : decode cX12_layBundle 6 = .ok (.imul, 1) := by decide +kernel
theorem dX12_layBundle_7 : decode cX12_layBundle 7 = .ok (.iadd, 1) := by decide +kernel
theorem dX12_layBundle_8 : decode cX12_layBundle 8 = .ok (.istore_n 3, 1) := by decide +kernel
theorem dX12_layBundle_9 : decode cX12_layBundle 9 = .ok (.aload_n 0, 1) := by decide +kernel
theorem dX12_layBundle_10 : decode cX12_layBundle 10 = .ok (.iload_n 3, 1) := by decide +kernel
theorem dX12_layBundle_11 : decode cX12_layBundle 11 = .ok (.iconst 0, 1) := by decide +kernel
theorem dX12_layBundle_12 : decode cX12_layBundle 12 = .ok (.iadd, 1) := by decide +kernel
theorem dX12_layBundle_13 : decode cX12_layBundle 13 = .ok (.iload_n 1, 1) := by decide +kernel
theorem dX12_layBundle_14 : decode cX12_layBundle 14 = .ok (.iastore, 1) := by decide +kernel
theorem dX12_layBundle_15 : decode cX12_layBundle 15 = .ok (.aload_n 0, 1) := by decide +kernel
theorem dX12_layBundle_16 : decode cX12_layBundle 16 = .ok (.iload_n 3, 1) := by decide +kernel
theorem dX12_layBundle_17 : decode cX12_layBundle 17 = .ok (.iconst 1, 1) := by decide +kernel
theorem dX12_layBundle_18 : decode cX12_layBundle 18 = .ok (.iadd, 1) := by decide +kernel
theorem dX12_layBundle_19 : decode cX12_layBundle 19 = .ok (.iload_n 2, 1) := by decide +kernel
theorem dX12_layBundle_20 : decode cX12_layBundle 20 = .ok (.iastore, 1) := by decide +kernel
theorem dX12_layBundle_21 : decode cX12_layBundle 21 = .ok (.aload_n 0, 1) := by decide +kernel
theorem dX12_layBundle_22 : decode cX12_layBundle 22 = .ok (.iload_n 3, 1) := by decide +kernel
theorem dX12_layBundle_23 : decode cX12_layBundle 23 = .ok (.iconst 2, 1) := by decide +kernel
theorem dX12_layBundle_24 : decode cX12_layBundle 24 = .ok (.iadd, 1) := by decide +kernel
theorem dX12_layBundle_25 : decode cX12_layBundle 25 = .ok (.iconst (-1), 1) := by decide +kernel
theorem dX12_layBundle_26 : decode cX12_layBundle 26 = .ok (.iastore, 1) := by decide +kernel
theorem dX12_layBundle_27 : decode cX12_layBundle 27 = .ok (.aload_n 0, 1) := by decide +kernel
theorem dX12_layBundle_28 : decode cX12_layBundle 28 = .ok (.iload_n 3, 1) := by decide +kernel
theorem dX12_layBundle_29 : decode cX12_layBundle 29 = .ok (.iconst 3, 1) := by decide +kernel
theorem dX12_layBundle_30 : decode cX12_layBundle 30 = .ok (.iadd, 1) := by decide +kernel
theorem dX12_layBundle_31 : decode cX12_layBundle 31 = .ok (.iconst (-1), 1) := by decide +kernel
theorem dX12_layBundle_32 : decode cX12_layBundle 32 = .ok (.iastore, 1) := by decide +kernel
theorem dX12_layBundle_33 : decode cX12_layBundle 33 = .ok (.aload_n 0, 1) := by decide +kernel
theorem dX12_layBundle_34 : decode cX12_layBundle 34 = .ok (.iconst 1, 1) := by decide +kernel
theorem dX12_layBundle_35 : decode cX12_layBundle 35 = .ok (.dup2, 1) := by decide +kernel
theorem dX12_layBundle_36 : decode cX12_layBundle 36 = .ok (.iaload, 1) := by decide +kernel
theorem dX12_layBundle_37 : decode cX12_layBundle 37 = .ok (.iconst 1, 1) := by decide +kernel
theorem dX12_layBundle_38 : decode cX12_layBundle 38 = .ok (.iadd, 1) := by decide +kernel
theorem dX12_layBundle_39 : decode cX12_layBundle 39 = .ok (.iastore, 1) := by decide +kernel
theorem dX12_layBundle_40 : decode cX12_layBundle 40 = .ok (.return_, 1) := by decide +kernel
set_option maxHeartbeats 4000000 in
set_option maxRecDepth 100000 in
theorem k_layBundle (l : Launch) (dC : Nat → ClassId) (dI : Nat → Nat → Nat) (ta : Nat) (ca : ClassId) (na : Int32) (nb : Int32) (sz : Nat) : Met l yX12_layBundle wsX12_layBundle ({ frames := 0, cells := 0, slots := 0, locals := 0 }) (va_Pc [.ref ta, .int na, .int nb] (fun U => U.heap.size = sz ∧ va_P (dC, dI) vwCl [(ta, .inl (ca, 350, .inl (fun _ => 0)))] U.heap ∧ va_K (dC, dI) vwCl [(ca, .int)] U ∧ va_D (fun _ => True) [(ta, .inl (ca, 350, .inl (fun _ => 0)))])) (va_Qv (fun (_ : Unit) => True) (fun _ t => va_P (dC, dI) vwCl [(ta, .inl (ca, 350, .inl (upd (upd (upd (upd (upd (fun _ => 0) (Int32.toNatClampNeg 10) na) (Int32.toNatClampNeg 11) nb) (Int32.toNatClampNeg 12) (-1)) (Int32.toNatClampNeg 13) (-1)) (Int32.toNatClampNeg 1) 1)))] t.heap ∧ va_K (dC, dI) vwCl [(ca, .int)] t ∧ va_D (va_A [(ta, .inl (ca, 350, .inl (fun _ => 0)))] sz) [(ta, .inl (ca, 350, .inl (upd (upd (upd (upd (upd (fun _ => 0) (Int32.toNatClampNeg 10) na) (Int32.toNatClampNeg 11) nb) (Int32.toNatClampNeg 12) (-1)) (Int32.toNatClampNeg 13) (-1)) (Int32.toNatClampNeg 1) 1)))]) (va_A [(ta, .inl (ca, 350, .inl (fun _ => 0)))] sz)) 0 0 (va_A [(ta, .inl (ca, 350, .inl (fun _ => 0)))] sz) := by
  refine Met.ofW (cc := cX12_layBundle) (maxL := 4) (ret := none) (by decide) rfl ?_
  intro p e s m args below meth c s₁ B hml hv
  obtain ⟨rfl, hsz, hP, hK, hD0⟩ := hv
  have hx := B.exec
  have hb := B.bytes
  have hr := B.returns
  have hts := atoms_spec (ws := wsX12_layBundle) B.pre
  have hown : s.vm.findClass RX12 = some m.cls := findClass_of_methodNamed B.named
  have hlocks := B.notSynchronized
  subst hsz
  have hD := hD0.self (sz := s.heap.size)
  generalize hAe : va_A [(ta, .inl (ca, 350, .inl (fun _ => 0)))] s.heap.size = A at hD ⊢
  have hA : ∀ q : Nat, s.heap.size ≤ q → A q := fun q h => by rw [← hAe]; exact Or.inr h
  have hS : va_S A s.heap s.heap [] := va_S.rf
  have hP : va_P (dC, dI) vwCl [(ta, .inl (ca, 350, .inl (fun _ => 0)))] s.heap := hP
  have hl := lv_entry ([.ref ta, .int na, .int nb]) (n := 4) (Nat.le_of_ble_eq_true rfl)
  rw [lg_entry_eq]
  generalize (lg_sl ([.ref ta, .int na, .int nb]) ++ List.replicate (4 - (lg_sl ([.ref ta, .int na, .int nb])).length) Slot.unset).toArray = ls at hl ⊢
  have hl : lv_has ls 4 [(0, .ref ta), (1, .int na), (2, .int nb)] := hl
  refine lv_bipush (v := 10) hx hb dX12_layBundle_0 (by decide) ?_
  refine lv_iconst (v := 4) hx hb dX12_layBundle_2 (by decide) ?_
  refine lv_aload_n hx hb dX12_layBundle_3 rfl (lv_at hl 0 rfl) ?_
  refine lv_iconst (v := 1) hx hb dX12_layBundle_4 (by decide) ?_
  refine va_iald hx hb hK hP 0 0 rfl rfl (show ¬ ((1 : Int32) < 0 ∨ 350 ≤ (1 : Int32).toNatClampNeg) by decide) dX12_layBundle_5 ?_
  refine tz_i 0 rfl ?_
  refine lv_imul hx hb dX12_layBundle_6 ?_
  refine tz_i 0 (by decide) ?_
  refine lv_iadd hx hb dX12_layBundle_7 ?_
  refine tz_i 10 (by decide) ?_
  refine lv_istore_n (lv' := [(3, .int 10), (0, .ref ta), (1, .int na), (2, .int nb)]) hx hb dX12_layBundle_8 rfl hl (by decide) rfl (fun ls hl => ?_)
  refine lv_aload_n hx hb dX12_layBundle_9 rfl (lv_at hl 1 rfl) ?_
  refine lv_iload_n hx hb dX12_layBundle_10 rfl (lv_at hl 0 rfl) ?_
  refine lv_iconst (v := 0) hx hb dX12_layBundle_11 (by decide) ?_
  refine lv_iadd hx hb dX12_layBundle_12 ?_
  refine tz_i 10 (by decide) ?_
  refine lv_iload_n hx hb dX12_layBundle_13 rfl (lv_at hl 2 rfl) ?_
  refine va_iast hx hb hK hP hD hS 0 0 rfl rfl (show ¬ ((10 : Int32) < 0 ∨ 350 ≤ (10 : Int32).toNatClampNeg) by decide) dX12_layBundle_14 (fun H locs hP hD hS => ?_)
  have hP : va_P (dC, dI) vwCl [(ta, .inl (ca, 350, .inl (upd (fun _ => 0) (Int32.toNatClampNeg 10) na)))] H := hP
  have hD : va_D A [(ta, .inl (ca, 350, .inl (upd (fun _ => 0) (Int32.toNatClampNeg 10) na)))] := hD
  refine lv_aload_n hx hb dX12_layBundle_15 rfl (lv_at hl 1 rfl) ?_
  refine lv_iload_n hx hb dX12_layBundle_16 rfl (lv_at hl 0 rfl) ?_
  refine lv_iconst (v := 1) hx hb dX12_layBundle_17 (by decide) ?_
  refine lv_iadd hx hb dX12_layBundle_18 ?_
  refine tz_i 11 (by decide) ?_
  refine lv_iload_n hx hb dX12_layBundle_19 rfl (lv_at hl 3 rfl) ?_
  refine va_iast hx hb hK hP hD hS 0 0 rfl rfl (show ¬ ((11 : Int32) < 0 ∨ 350 ≤ (11 : Int32).toNatClampNeg) by decide) dX12_layBundle_20 (fun H locs hP hD hS => ?_)
  have hP : va_P (dC, dI) vwCl [(ta, .inl (ca, 350, .inl (upd (upd (fun _ => 0) (Int32.toNatClampNeg 10) na) (Int32.toNatClampNeg 11) nb)))] H := hP
  have hD : va_D A [(ta, .inl (ca, 350, .inl (upd (upd (fun _ => 0) (Int32.toNatClampNeg 10) na) (Int32.toNatClampNeg 11) nb)))] := hD
  refine lv_aload_n hx hb dX12_layBundle_21 rfl (lv_at hl 1 rfl) ?_
  refine lv_iload_n hx hb dX12_layBundle_22 rfl (lv_at hl 0 rfl) ?_
  refine lv_iconst (v := 2) hx hb dX12_layBundle_23 (by decide) ?_
  refine lv_iadd hx hb dX12_layBundle_24 ?_
  refine tz_i 12 (by decide) ?_
  refine lv_iconst (v := (-1)) hx hb dX12_layBundle_25 (by decide) ?_
  refine va_iast hx hb hK hP hD hS 0 0 rfl rfl (show ¬ ((12 : Int32) < 0 ∨ 350 ≤ (12 : Int32).toNatClampNeg) by decide) dX12_layBundle_26 (fun H locs hP hD hS => ?_)
  have hP : va_P (dC, dI) vwCl [(ta, .inl (ca, 350, .inl (upd (upd (upd (fun _ => 0) (Int32.toNatClampNeg 10) na) (Int32.toNatClampNeg 11) nb) (Int32.toNatClampNeg 12) (-1))))] H := hP
  have hD : va_D A [(ta, .inl (ca, 350, .inl (upd (upd (upd (fun _ => 0) (Int32.toNatClampNeg 10) na) (Int32.toNatClampNeg 11) nb) (Int32.toNatClampNeg 12) (-1))))] := hD
  refine lv_aload_n hx hb dX12_layBundle_27 rfl (lv_at hl 1 rfl) ?_
  refine lv_iload_n hx hb dX12_layBundle_28 rfl (lv_at hl 0 rfl) ?_
  refine lv_iconst (v := 3) hx hb dX12_layBundle_29 (by decide) ?_
  refine lv_iadd hx hb dX12_layBundle_30 ?_
  refine tz_i 13 (by decide) ?_
  refine lv_iconst (v := (-1)) hx hb dX12_layBundle_31 (by decide) ?_
  refine va_iast hx hb hK hP hD hS 0 0 rfl rfl (show ¬ ((13 : Int32) < 0 ∨ 350 ≤ (13 : Int32).toNatClampNeg) by decide) dX12_layBundle_32 (fun H locs hP hD hS => ?_)
  have hP : va_P (dC, dI) vwCl [(ta, .inl (ca, 350, .inl (upd (upd (upd (upd (fun _ => 0) (Int32.toNatClampNeg 10) na) (Int32.toNatClampNeg 11) nb) (Int32.toNatClampNeg 12) (-1)) (Int32.toNatClampNeg 13) (-1))))] H := hP
  have hD : va_D A [(ta, .inl (ca, 350, .inl (upd (upd (upd (upd (fun _ => 0) (Int32.toNatClampNeg 10) na) (Int32.toNatClampNeg 11) nb) (Int32.toNatClampNeg 12) (-1)) (Int32.toNatClampNeg 13) (-1))))] := hD
  refine lv_aload_n hx hb dX12_layBundle_33 rfl (lv_at hl 1 rfl) ?_
  refine lv_iconst (v := 1) hx hb dX12_layBundle_34 (by decide) ?_
  refine lv_dup2_11 hx hb dX12_layBundle_35 rfl rfl ?_
  refine va_iald hx hb hK hP 0 0 rfl rfl (show ¬ ((1 : Int32) < 0 ∨ 350 ≤ (1 : Int32).toNatClampNeg) by decide) dX12_layBundle_36 ?_
  refine tz_i 0 rfl ?_
  refine lv_iconst (v := 1) hx hb dX12_layBundle_37 (by decide) ?_
  refine lv_iadd hx hb dX12_layBundle_38 ?_
  refine tz_i 1 (by decide) ?_
  refine va_iast hx hb hK hP hD hS 0 0 rfl rfl (show ¬ ((1 : Int32) < 0 ∨ 350 ≤ (1 : Int32).toNatClampNeg) by decide) dX12_layBundle_39 (fun H locs hP hD hS => ?_)
  have hP : va_P (dC, dI) vwCl [(ta, .inl (ca, 350, .inl (upd (upd (upd (upd (upd (fun _ => 0) (Int32.toNatClampNeg 10) na) (Int32.toNatClampNeg 11) nb) (Int32.toNatClampNeg 12) (-1)) (Int32.toNatClampNeg 13) (-1)) (Int32.toNatClampNeg 1) 1)))] H := hP
  have hD : va_D A [(ta, .inl (ca, 350, .inl (upd (upd (upd (upd (upd (fun _ => 0) (Int32.toNatClampNeg 10) na) (Int32.toNatClampNeg 11) nb) (Int32.toNatClampNeg 12) (-1)) (Int32.toNatClampNeg 13) (-1)) (Int32.toNatClampNeg 1) 1)))] := hD
  have hP9 := hP.sub (ws' := [(ta, .inl (ca, 350, .inl (upd (upd (upd (upd (upd (fun _ => 0) (Int32.toNatClampNeg 10) na) (Int32.toNatClampNeg 11) nb) (Int32.toNatClampNeg 12) (-1)) (Int32.toNatClampNeg 13) (-1)) (Int32.toNatClampNeg 1) 1)))]) [0] rfl
  have hD9 := hD.sub (ws' := [(ta, .inl (ca, 350, .inl (upd (upd (upd (upd (upd (fun _ => 0) (Int32.toNatClampNeg 10) na) (Int32.toNatClampNeg 11) nb) (Int32.toNatClampNeg 12) (-1)) (Int32.toNatClampNeg 13) (-1)) (Int32.toNatClampNeg 1) 1)))]) [0] (by decide) rfl
  have hK9 := hK.sub (tys' := [(ca, .int)]) [0] rfl
  exact W.vret hx hb hr (fun t ht hW => ⟨⟨(), rfl, trivial, by rw [ht]; exact hP9, va_K.moved hW.alike hK9, hD9⟩, hS.F ht⟩) hS.2.2 dX12_layBundle_40
theorem dX12_offByOnes_0 : decode cX12_offByOnes 0 = .ok (.iload_n 0, 1) := by decide +kernel
theorem dX12_offByOnes_1 : decode cX12_offByOnes 1 = .ok (.iconst 2, 1) := by decide +kernel
theorem dX12_offByOnes_2 : decode cX12_offByOnes 2 = .ok (.if_icmp .ge 7, 3) := by decide +kernel
theorem dX12_offByOnes_9 : decode cX12_offByOnes 9 = .ok (.iload_n 0, 1) := by decide +kernel
theorem dX12_offByOnes_10 : decode cX12_offByOnes 10 = .ok (.iconst 2, 1) := by decide +kernel
theorem dX12_offByOnes_11 : decode cX12_offByOnes 11 = .ok (.if_icmp .ne 7, 3) := by decide +kernel
theorem dX12_offByOnes_18 : decode cX12_offByOnes 18 = .ok (.iconst 0, 1) := by decide +kernel
theorem dX12_offByOnes_19 : decode cX12_offByOnes 19 = .ok (.ireturn, 1) := by decide +kernel
theorem dX12_offByOnes_14 : decode cX12_offByOnes 14 = .ok (.iconst 1, 1) := by decide +kernel
theorem dX12_offByOnes_15 : decode cX12_offByOnes 15 = .ok (.goto 4, 3) := by decide +kernel
theorem dX12_offByOnes_5 : decode cX12_offByOnes 5 = .ok (.iconst (-1), 1) := by decide +kernel
theorem dX12_offByOnes_6 : decode cX12_offByOnes 6 = .ok (.goto 13, 3) := by decide +kernel
set_option maxHeartbeats 4000000 in
set_option maxRecDepth 100000 in
theorem k_offByOnes (l : Launch) (dC : Nat → ClassId) (dI : Nat → Nat → Nat) (nk : Int32) : Met l yX12_offByOnes wsX12_offByOnes ({ frames := 0, cells := 0, slots := 0, locals := 0 }) (va_Pc [.int nk] (fun _ => True)) (vp_Si (fun r => r = (yO nk))) 0 0 (fun _ => False) := by
  refine Met.ofW (cc := cX12_offByOnes) (maxL := 1) (ret := (some .int)) (by decide) rfl ?_
  intro p e s m args below meth c s₁ B hml hv
  obtain ⟨rfl, -⟩ := hv
  have hx := B.exec
  have hb := B.bytes
  have hr := B.returns
  have hts := atoms_spec (ws := wsX12_offByOnes) B.pre
  have hown : s.vm.findClass RX12 = some m.cls := findClass_of_methodNamed B.named
  have hlocks := B.notSynchronized
  have hl := lv_entry ([.int nk]) (n := 1) (Nat.le_of_ble_eq_true rfl)
  rw [lg_entry_eq]
  generalize (lg_sl ([.int nk]) ++ List.replicate (1 - (lg_sl ([.int nk])).length) Slot.unset).toArray = ls at hl ⊢
  have hl : lv_has ls 1 [(0, .int nk)] := hl
  refine lv_iload_n hx hb dX12_offByOnes_0 rfl (lv_at hl 0 rfl) ?_
  refine lv_iconst (v := 2) hx hb dX12_offByOnes_1 (by decide) ?_
  refine lv_icmp_ge (tgt := 9) hx hb dX12_offByOnes_2 (by decide) (fun c_1 => ?_) (fun c_1 => ?_)
  · refine lv_iload_n hx hb dX12_offByOnes_9 rfl (lv_at hl 0 rfl) ?_
    refine lv_iconst (v := 2) hx hb dX12_offByOnes_10 (by decide) ?_
    refine lv_icmp_ne (tgt := 18) hx hb dX12_offByOnes_11 (by decide) (fun c_2 => ?_) (fun c_2 => ?_)
    · refine lv_iconst (v := 0) hx hb dX12_offByOnes_18 (by decide) ?_
      exact W.iret (v := 0) hx hb hr (fun t ht hW => ⟨0, rfl, (show 0 = yO nk from by unfold yO; exact ((if_pos c_1).trans (if_neg c_2)).symm), ht⟩) (fun _ h => absurd h List.not_mem_nil) dX12_offByOnes_19
    · refine lv_iconst (v := 1) hx hb dX12_offByOnes_14 (by decide) ?_
      refine lv_goto (tgt := 19) hx hb dX12_offByOnes_15 (by decide) ?_
      exact W.iret (v := 1) hx hb hr (fun t ht hW => ⟨1, rfl, (show 1 = yO nk from by unfold yO; exact ((if_pos c_1).trans (if_pos c_2)).symm), ht⟩) (fun _ h => absurd h List.not_mem_nil) dX12_offByOnes_19
  · refine lv_iconst (v := (-1)) hx hb dX12_offByOnes_5 (by decide) ?_
    refine lv_goto (tgt := 19) hx hb dX12_offByOnes_6 (by decide) ?_
    exact W.iret (v := (-1)) hx hb hr (fun t ht hW => ⟨(-1), rfl, (show (-1) = yO nk from by unfold yO; exact (if_neg c_1).symm), ht⟩) (fun _ h => absurd h List.not_mem_nil) dX12_offByOnes_19
theorem dX12_offByWeight_0 : decode cX12_offByWeight 0 = .ok (.iload_n 0, 1) := by decide +kernel
theorem dX12_offByWeight_1 : decode cX12_offByWeight 1 = .ok (.iconst 3, 1) := by decide +kernel
theorem dX12_offByWeight_2 : decode cX12_offByWeight 2 = .ok (.if_icmp .ge 7, 3) := by decide +kernel
theorem dX12_offByWeight_9 : decode cX12_offByWeight 9 = .ok (.iload_n 0, 1) := by decide +kernel
theorem dX12_offByWeight_10 : decode cX12_offByWeight 10 = .ok (.bipush 6, 2) := by decide +kernel
theorem dX12_offByWeight_12 : decode cX12_offByWeight 12 = .ok (.if_icmp .ge 8, 3) := by decide +kernel
theorem dX12_offByWeight_20 : decode cX12_offByWeight 20 = .ok (.iload_n 0, 1) := by decide +kernel
theorem dX12_offByWeight_21 : decode cX12_offByWeight 21 = .ok (.bipush 9, 2) := by decide +kernel
theorem dX12_offByWeight_23 : decode cX12_offByWeight 23 = .ok (.if_icmp .ge 7, 3) := by decide +kernel
theorem dX12_offByWeight_30 : decode cX12_offByWeight 30 = .ok (.iload_n 0, 1) := by decide +kernel
theorem dX12_offByWeight_31 : decode cX12_offByWeight 31 = .ok (.bipush 12, 2) := by decide +kernel
theorem dX12_offByWeight_33 : decode cX12_offByWeight 33 = .ok (.if_icmp .ge 7, 3) := by decide +kernel
theorem dX12_offByWeight_40 : decode cX12_offByWeight 40 = .ok (.iconst 0, 1) := by decide +kernel
theorem dX12_offByWeight_41 : decode cX12_offByWeight 41 = .ok (.ireturn, 1) := by decide +kernel
theorem dX12_offByWeight_36 : decode cX12_offByWeight 36 = .ok (.iconst 2, 1) := by decide +kernel
theorem dX12_offByWeight_37 : decode cX12_offByWeight 37 = .ok (.goto 4, 3) := by decide +kernel
theorem dX12_offByWeight_26 : decode cX12_offByWeight 26 = .ok (.iconst 1, 1) := by decide +kernel
theorem dX12_offByWeight_27 : decode cX12_offByWeight 27 = .ok (.goto 14, 3) := by decide +kernel
theorem dX12_offByWeight_15 : decode cX12_offByWeight 15 = .ok (.bipush (-2), 2) := by decide +kernel
theorem dX12_offByWeight_17 : decode cX12_offByWeight 17 = .ok (.goto 24, 3) := by decide +kernel
theorem dX12_offByWeight_5 : decode cX12_offByWeight 5 = .ok (.iconst (-1), 1) := by decide +kernel
theorem dX12_offByWeight_6 : decode cX12_offByWeight 6 = .ok (.goto 35, 3) := by decide +kernel
set_option maxHeartbeats 4000000 in
set_option maxRecDepth 100000 in
theorem k_offByWeight (l : Launch) (dC : Nat → ClassId) (dI : Nat → Nat → Nat) (nk : Int32) : Met l yX12_offByWeight wsX12_offByWeight ({ frames := 0, cells := 0, slots := 0, locals := 0 }) (va_Pc [.int nk] (fun _ => True)) (vp_Si (fun r => r = (zW nk))) 0 0 (fun _ => False) := by
  refine Met.ofW (cc := cX12_offByWeight) (maxL := 1) (ret := (some .int)) (by decide) rfl ?_
  intro p e s m args below meth c s₁ B hml hv
  obtain ⟨rfl, -⟩ := hv
  have hx := B.exec
  have hb := B.bytes
  have hr := B.returns
  have hts := atoms_spec (ws := wsX12_offByWeight) B.pre
  have hown : s.vm.findClass RX12 = some m.cls := findClass_of_methodNamed B.named
  have hlocks := B.notSynchronized
  have hl := lv_entry ([.int nk]) (n := 1) (Nat.le_of_ble_eq_true rfl)
  rw [lg_entry_eq]
  generalize (lg_sl ([.int nk]) ++ List.replicate (1 - (lg_sl ([.int nk])).length) Slot.unset).toArray = ls at hl ⊢
  have hl : lv_has ls 1 [(0, .int nk)] := hl
  refine lv_iload_n hx hb dX12_offByWeight_0 rfl (lv_at hl 0 rfl) ?_
  refine lv_iconst (v := 3) hx hb dX12_offByWeight_1 (by decide) ?_
  refine lv_icmp_ge (tgt := 9) hx hb dX12_offByWeight_2 (by decide) (fun c_1 => ?_) (fun c_1 => ?_)
  · refine lv_iload_n hx hb dX12_offByWeight_9 rfl (lv_at hl 0 rfl) ?_
    refine lv_bipush (v := 6) hx hb dX12_offByWeight_10 (by decide) ?_
    refine lv_icmp_ge (tgt := 20) hx hb dX12_offByWeight_12 (by decide) (fun c_2 => ?_) (fun c_2 => ?_)
    · refine lv_iload_n hx hb dX12_offByWeight_20 rfl (lv_at hl 0 rfl) ?_
      refine lv_bipush (v := 9) hx hb dX12_offByWeight_21 (by decide) ?_
      refine lv_icmp_ge (tgt := 30) hx hb dX12_offByWeight_23 (by decide) (fun c_3 => ?_) (fun c_3 => ?_)
      · refine lv_iload_n hx hb dX12_offByWeight_30 rfl (lv_at hl 0 rfl) ?_
        refine lv_bipush (v := 12) hx hb dX12_offByWeight_31 (by decide) ?_
        refine lv_icmp_ge (tgt := 40) hx hb dX12_offByWeight_33 (by decide) (fun c_4 => ?_) (fun c_4 => ?_)
        · refine lv_iconst (v := 0) hx hb dX12_offByWeight_40 (by decide) ?_
          exact W.iret (v := 0) hx hb hr (fun t ht hW => ⟨0, rfl, (show 0 = zW nk from by unfold zW; exact ((if_pos c_1).trans ((if_pos c_2).trans ((if_pos c_3).trans (if_pos c_4)))).symm), ht⟩) (fun _ h => absurd h List.not_mem_nil) dX12_offByWeight_41
        · refine lv_iconst (v := 2) hx hb dX12_offByWeight_36 (by decide) ?_
          refine lv_goto (tgt := 41) hx hb dX12_offByWeight_37 (by decide) ?_
          exact W.iret (v := 2) hx hb hr (fun t ht hW => ⟨2, rfl, (show 2 = zW nk from by unfold zW; exact ((if_pos c_1).trans ((if_pos c_2).trans ((if_pos c_3).trans (if_neg c_4)))).symm), ht⟩) (fun _ h => absurd h List.not_mem_nil) dX12_offByWeight_41
      · refine lv_iconst (v := 1) hx hb dX12_offByWeight_26 (by decide) ?_
        refine lv_goto (tgt := 41) hx hb dX12_offByWeight_27 (by decide) ?_
        exact W.iret (v := 1) hx hb hr (fun t ht hW => ⟨1, rfl, (show 1 = zW nk from by unfold zW; exact ((if_pos c_1).trans ((if_pos c_2).trans (if_neg c_3))).symm), ht⟩) (fun _ h => absurd h List.not_mem_nil) dX12_offByWeight_41
    · refine lv_bipush (v := (-2)) hx hb dX12_offByWeight_15 (by decide) ?_
      refine lv_goto (tgt := 41) hx hb dX12_offByWeight_17 (by decide) ?_
      exact W.iret (v := (-2)) hx hb hr (fun t ht hW => ⟨(-2), rfl, (show (-2) = zW nk from by unfold zW; exact ((if_pos c_1).trans (if_neg c_2)).symm), ht⟩) (fun _ h => absurd h List.not_mem_nil) dX12_offByWeight_41
  · refine lv_iconst (v := (-1)) hx hb dX12_offByWeight_5 (by decide) ?_
    refine lv_goto (tgt := 41) hx hb dX12_offByWeight_6 (by decide) ?_
    exact W.iret (v := (-1)) hx hb hr (fun t ht hW => ⟨(-1), rfl, (show (-1) = zW nk from by unfold zW; exact (if_neg c_1).symm), ht⟩) (fun _ h => absurd h List.not_mem_nil) dX12_offByWeight_41
set_option maxRecDepth 20000 in
theorem ggX12_offBy_X12_offByOnes : GoodIn wsX12_offBy wsX12_offByOnes := goodIn_r _ [6] (by decide +kernel) (by decide +kernel)
set_option maxRecDepth 20000 in
theorem gX12_offBy_X12_offByOnes : GoodIn wsX12_offBy (va_wsS RX12 116 yX12_offByOnes wsX12_offByOnes) := goodIn_app (goodIn_of _ (by decide +kernel)) ggX12_offBy_X12_offByOnes
set_option maxRecDepth 20000 in
theorem ggX12_offBy_X12_offByWeight : GoodIn wsX12_offBy wsX12_offByWeight := goodIn_r _ [9] (by decide +kernel) (by decide +kernel)
set_option maxRecDepth 20000 in
theorem gX12_offBy_X12_offByWeight : GoodIn wsX12_offBy (va_wsS RX12 119 yX12_offByWeight wsX12_offByWeight) := goodIn_app (goodIn_of _ (by decide +kernel)) ggX12_offBy_X12_offByWeight
set_option maxRecDepth 20000 in
theorem ggX12_offBy_X12_in : GoodIn wsX12_offBy wsX12_in := goodIn_r _ [12] (by decide +kernel) (by decide +kernel)
set_option maxRecDepth 20000 in
theorem gX12_offBy_X12_in : GoodIn wsX12_offBy (va_wsS RX12 49 yX12_in wsX12_in) := goodIn_app (goodIn_of _ (by decide +kernel)) ggX12_offBy_X12_in
theorem dX12_offBy_0 : decode cX12_offBy 0 = .ok (.iload_n 0, 1) := by decide +kernel
theorem dX12_offBy_1 : decode cX12_offBy 1 = .ok (.tableswitch 126 1 5 #[35, 50, 55, 93, 100], 35) := by decide +kernel
theorem dX12_offBy_127 : decode cX12_offBy 127 = .ok (.iload_n 1, 1) := by decide +kernel
theorem dX12_offBy_128 : decode cX12_offBy 128 = .ok (.invokestatic 116, 3) := by decide +kernel
theorem dX12_offBy_131 : decode cX12_offBy 131 = .ok (.ireturn, 1) := by decide +kernel
theorem dX12_offBy_36 : decode cX12_offBy 36 = .ok (.iload_n 1, 1) := by decide +kernel
theorem dX12_offBy_37 : decode cX12_offBy 37 = .ok (.iconst 3, 1) := by decide +kernel
theorem dX12_offBy_38 : decode cX12_offBy 38 = .ok (.if_icmp .ne 8, 3) := by decide +kernel
theorem dX12_offBy_46 : decode cX12_offBy 46 = .ok (.iload_n 1, 1) := by decide +kernel
theorem dX12_offBy_47 : decode cX12_offBy 47 = .ok (.invokestatic 116, 3) := by decide +kernel
theorem dX12_offBy_50 : decode cX12_offBy 50 = .ok (.ireturn, 1) := by decide +kernel
theorem dX12_offBy_41 : decode cX12_offBy 41 = .ok (.bipush (-5), 2) := by decide +kernel
theorem dX12_offBy_43 : decode cX12_offBy 43 = .ok (.goto 7, 3) := by decide +kernel
theorem dX12_offBy_51 : decode cX12_offBy 51 = .ok (.iload_n 1, 1) := by decide +kernel
theorem dX12_offBy_52 : decode cX12_offBy 52 = .ok (.invokestatic 119, 3) := by decide +kernel
theorem dX12_offBy_55 : decode cX12_offBy 55 = .ok (.ireturn, 1) := by decide +kernel
theorem dX12_offBy_56 : decode cX12_offBy 56 = .ok (.iload_n 1, 1) := by decide +kernel
theorem dX12_offBy_57 : decode cX12_offBy 57 = .ok (.bipush 12, 2) := by decide +kernel
theorem dX12_offBy_59 : decode cX12_offBy 59 = .ok (.if_icmp .eq 9, 3) := by decide +kernel
theorem dX12_offBy_68 : decode cX12_offBy 68 = .ok (.bipush (-3), 2) := by decide +kernel
theorem dX12_offBy_70 : decode cX12_offBy 70 = .ok (.goto 23, 3) := by decide +kernel
theorem dX12_offBy_93 : decode cX12_offBy 93 = .ok (.ireturn, 1) := by decide +kernel
theorem dX12_offBy_62 : decode cX12_offBy 62 = .ok (.iload_n 1, 1) := by decide +kernel
theorem dX12_offBy_63 : decode cX12_offBy 63 = .ok (.bipush 13, 2) := by decide +kernel
theorem dX12_offBy_65 : decode cX12_offBy 65 = .ok (.if_icmp .ne 8, 3) := by decide +kernel
theorem dX12_offBy_73 : decode cX12_offBy 73 = .ok (.iload_n 1, 1) := by decide +kernel
theorem dX12_offBy_74 : decode cX12_offBy 74 = .ok (.bipush 14, 2) := by decide +kernel
theorem dX12_offBy_76 : decode cX12_offBy 76 = .ok (.if_icmp .eq 9, 3) := by decide +kernel
theorem dX12_offBy_85 : decode cX12_offBy 85 = .ok (.iconst 3, 1) := by decide +kernel
theorem dX12_offBy_86 : decode cX12_offBy 86 = .ok (.goto 7, 3) := by decide +kernel
theorem dX12_offBy_79 : decode cX12_offBy 79 = .ok (.iload_n 1, 1) := by decide +kernel
theorem dX12_offBy_80 : decode cX12_offBy 80 = .ok (.bipush 15, 2) := by decide +kernel
theorem dX12_offBy_82 : decode cX12_offBy 82 = .ok (.if_icmp .ne 7, 3) := by decide +kernel
theorem dX12_offBy_89 : decode cX12_offBy 89 = .ok (.iload_n 1, 1) := by decide +kernel
theorem dX12_offBy_90 : decode cX12_offBy 90 = .ok (.invokestatic 119, 3) := by decide +kernel
theorem dX12_offBy_94 : decode cX12_offBy 94 = .ok (.iload_n 1, 1) := by decide +kernel
theorem dX12_offBy_95 : decode cX12_offBy 95 = .ok (.iconst 2, 1) := by decide +kernel
theorem dX12_offBy_96 : decode cX12_offBy 96 = .ok (.idiv, 1) := by decide +kernel
theorem dX12_offBy_97 : decode cX12_offBy 97 = .ok (.invokestatic 116, 3) := by decide +kernel
theorem dX12_offBy_100 : decode cX12_offBy 100 = .ok (.ireturn, 1) := by decide +kernel
theorem dX12_offBy_101 : decode cX12_offBy 101 = .ok (.iload_n 1, 1) := by decide +kernel
theorem dX12_offBy_102 : decode cX12_offBy 102 = .ok (.i2l, 1) := by decide +kernel
theorem dX12_offBy_103 : decode cX12_offBy 103 = .ok (.ldc2_w 122, 3) := by decide +kernel
theorem dX12_offBy_106 : decode cX12_offBy 106 = .ok (.ldc2_w 124, 3) := by decide +kernel
theorem dX12_offBy_109 : decode cX12_offBy 109 = .ok (.invokestatic 49, 3) := by decide +kernel
theorem dX12_offBy_112 : decode cX12_offBy 112 = .ok (.ifCond .eq 8, 3) := by decide +kernel
theorem dX12_offBy_115 : decode cX12_offBy 115 = .ok (.bipush (-2), 2) := by decide +kernel
theorem dX12_offBy_117 : decode cX12_offBy 117 = .ok (.goto 9, 3) := by decide +kernel
theorem dX12_offBy_126 : decode cX12_offBy 126 = .ok (.ireturn, 1) := by decide +kernel
theorem dX12_offBy_120 : decode cX12_offBy 120 = .ok (.iload_n 1, 1) := by decide +kernel
theorem dX12_offBy_121 : decode cX12_offBy 121 = .ok (.iconst 2, 1) := by decide +kernel
theorem dX12_offBy_122 : decode cX12_offBy 122 = .ok (.idiv, 1) := by decide +kernel
theorem dX12_offBy_123 : decode cX12_offBy 123 = .ok (.invokestatic 116, 3) := by decide +kernel
set_option maxHeartbeats 4000000 in
set_option maxRecDepth 100000 in
theorem k_offBy (l : Launch) (dC : Nat → ClassId) (dI : Nat → Nat → Nat) (na : Int32) (nk : Int32) (hna : 0 ≤ na ∧ na ≤ 5) : Met l yX12_offBy wsX12_offBy ({ frames := 1, cells := 0, slots := 0, locals := 25 }) (va_Pc [.int na, .int nk] (fun _ => True)) (vp_Si (fun r => r = (yS na nk))) 0 0 (fun _ => False) := by
  refine Met.ofW (cc := cX12_offBy) (maxL := 2) (ret := (some .int)) (by decide) rfl ?_
  intro p e s m args below meth c s₁ B hml hv
  obtain ⟨rfl, -⟩ := hv
  have hx := B.exec
  have hb := B.bytes
  have hr := B.returns
  have hts := atoms_spec (ws := wsX12_offBy) B.pre
  have hown : s.vm.findClass RX12 = some m.cls := findClass_of_methodNamed B.named
  have hlocks := B.notSynchronized
  have hl := lv_entry ([.int na, .int nk]) (n := 2) (Nat.le_of_ble_eq_true rfl)
  rw [lg_entry_eq]
  generalize (lg_sl ([.int na, .int nk]) ++ List.replicate (2 - (lg_sl ([.int na, .int nk])).length) Slot.unset).toArray = ls at hl ⊢
  have hl : lv_has ls 2 [(0, .int na), (1, .int nk)] := hl
  refine lv_iload_n hx hb dX12_offBy_0 rfl (lv_at hl 0 rfl) ?_
  rcases (tz_six hna) with rfl | rfl | rfl | rfl | rfl | rfl
  · refine lv_tableOut (tgt := 127) hx hb dX12_offBy_1 (by decide) (by decide) ?_
    refine lv_iload_n hx hb dX12_offBy_127 rfl (lv_at hl 1 rfl) ?_
    refine vp_callSi (va_Run.run (va_runS (As := [.int nk]) (rest := []) ⟨hx, hb, hml, hown, hts⟩ (k_offByOnes l dC dI nk) (va_cwS 1 hts gX12_offBy_X12_offByOnes rfl rfl rfl (by decide +kernel) ⟨Nat.le_of_ble_eq_true rfl, Nat.le_of_ble_eq_true rfl⟩) ⟨fun a U g mk q => ⟨q.1, trivial⟩, fun U hU hW => ⟨rfl, trivial⟩⟩ rfl rfl hl.1 rfl (lv_room (Nat.le_of_ble_eq_true rfl)) dX12_offBy_128 ⟨Nat.le_of_ble_eq_true rfl, Nat.le_of_ble_eq_true rfl⟩)) (fun r_1 hw_2 => ?_)
    obtain rfl : (yO nk) = r_1 := hw_2.symm
    exact W.iret (v := (yO nk)) hx hb hr (fun t ht hW => ⟨(yO nk), rfl, rfl, ht⟩) (fun _ h => absurd h List.not_mem_nil) dX12_offBy_131
  · refine lv_tableIn (off := 35) (tgt := 36) hx hb dX12_offBy_1 (by decide) (by decide) (by decide) (by decide) ?_
    refine lv_iload_n hx hb dX12_offBy_36 rfl (lv_at hl 1 rfl) ?_
    refine lv_iconst (v := 3) hx hb dX12_offBy_37 (by decide) ?_
    refine lv_icmp_ne (tgt := 46) hx hb dX12_offBy_38 (by decide) (fun c_3 => ?_) (fun c_3 => ?_)
    · refine lv_iload_n hx hb dX12_offBy_46 rfl (lv_at hl 1 rfl) ?_
      refine vp_callSi (va_Run.run (va_runS (As := [.int nk]) (rest := []) ⟨hx, hb, hml, hown, hts⟩ (k_offByOnes l dC dI nk) (va_cwS 1 hts gX12_offBy_X12_offByOnes rfl rfl rfl (by decide +kernel) ⟨Nat.le_of_ble_eq_true rfl, Nat.le_of_ble_eq_true rfl⟩) ⟨fun a U g mk q => ⟨q.1, trivial⟩, fun U hU hW => ⟨rfl, trivial⟩⟩ rfl rfl hl.1 rfl (lv_room (Nat.le_of_ble_eq_true rfl)) dX12_offBy_47 ⟨Nat.le_of_ble_eq_true rfl, Nat.le_of_ble_eq_true rfl⟩)) (fun r_4 hw_5 => ?_)
      obtain rfl : (yO nk) = r_4 := hw_5.symm
      exact W.iret (v := (yO nk)) hx hb hr (fun t ht hW => ⟨(yO nk), rfl, (show (yO nk) = yF nk from by unfold yF; exact (if_neg c_3).symm), ht⟩) (fun _ h => absurd h List.not_mem_nil) dX12_offBy_50
    · refine lv_bipush (v := (-5)) hx hb dX12_offBy_41 (by decide) ?_
      refine lv_goto (tgt := 50) hx hb dX12_offBy_43 (by decide) ?_
      exact W.iret (v := (-5)) hx hb hr (fun t ht hW => ⟨(-5), rfl, (show (-5) = yF nk from by unfold yF; exact (if_pos c_3).symm), ht⟩) (fun _ h => absurd h List.not_mem_nil) dX12_offBy_50
  · refine lv_tableIn (off := 50) (tgt := 51) hx hb dX12_offBy_1 (by decide) (by decide) (by decide) (by decide) ?_
    refine lv_iload_n hx hb dX12_offBy_51 rfl (lv_at hl 1 rfl) ?_
    refine vp_callSi (va_Run.run (va_runS (As := [.int nk]) (rest := []) ⟨hx, hb, hml, hown, hts⟩ (k_offByWeight l dC dI nk) (va_cwS 1 hts gX12_offBy_X12_offByWeight rfl rfl rfl (by decide +kernel) ⟨Nat.le_of_ble_eq_true rfl, Nat.le_of_ble_eq_true rfl⟩) ⟨fun a U g mk q => ⟨q.1, trivial⟩, fun U hU hW => ⟨rfl, trivial⟩⟩ rfl rfl hl.1 rfl (lv_room (Nat.le_of_ble_eq_true rfl)) dX12_offBy_52 ⟨Nat.le_of_ble_eq_true rfl, Nat.le_of_ble_eq_true rfl⟩)) (fun r_6 hw_7 => ?_)
    obtain rfl : (zW nk) = r_6 := hw_7.symm
    exact W.iret (v := (zW nk)) hx hb hr (fun t ht hW => ⟨(zW nk), rfl, rfl, ht⟩) (fun _ h => absurd h List.not_mem_nil) dX12_offBy_55
  · refine lv_tableIn (off := 55) (tgt := 56) hx hb dX12_offBy_1 (by decide) (by decide) (by decide) (by decide) ?_
    refine lv_iload_n hx hb dX12_offBy_56 rfl (lv_at hl 1 rfl) ?_
    refine lv_bipush (v := 12) hx hb dX12_offBy_57 (by decide) ?_
    refine lv_icmp_eq (tgt := 68) hx hb dX12_offBy_59 (by decide) (fun c_8 => ?_) (fun c_8 => ?_)
    · refine lv_bipush (v := (-3)) hx hb dX12_offBy_68 (by decide) ?_
      refine lv_goto (tgt := 93) hx hb dX12_offBy_70 (by decide) ?_
      exact W.iret (v := (-3)) hx hb hr (fun t ht hW => ⟨(-3), rfl, (show (-3) = zH nk from by unfold zH; exact (if_pos c_8).symm), ht⟩) (fun _ h => absurd h List.not_mem_nil) dX12_offBy_93
    · refine lv_iload_n hx hb dX12_offBy_62 rfl (lv_at hl 1 rfl) ?_
      refine lv_bipush (v := 13) hx hb dX12_offBy_63 (by decide) ?_
      refine lv_icmp_ne (tgt := 73) hx hb dX12_offBy_65 (by decide) (fun c_9 => ?_) (fun c_9 => ?_)
      · refine lv_iload_n hx hb dX12_offBy_73 rfl (lv_at hl 1 rfl) ?_
        refine lv_bipush (v := 14) hx hb dX12_offBy_74 (by decide) ?_
        refine lv_icmp_eq (tgt := 85) hx hb dX12_offBy_76 (by decide) (fun c_10 => ?_) (fun c_10 => ?_)
        · refine lv_iconst (v := 3) hx hb dX12_offBy_85 (by decide) ?_
          refine lv_goto (tgt := 93) hx hb dX12_offBy_86 (by decide) ?_
          exact W.iret (v := 3) hx hb hr (fun t ht hW => ⟨3, rfl, (show 3 = zH nk from by unfold zH; exact ((if_neg c_8).trans ((if_neg c_9).trans (if_pos c_10))).symm), ht⟩) (fun _ h => absurd h List.not_mem_nil) dX12_offBy_93
        · refine lv_iload_n hx hb dX12_offBy_79 rfl (lv_at hl 1 rfl) ?_
          refine lv_bipush (v := 15) hx hb dX12_offBy_80 (by decide) ?_
          refine lv_icmp_ne (tgt := 89) hx hb dX12_offBy_82 (by decide) (fun c_11 => ?_) (fun c_11 => ?_)
          · refine lv_iload_n hx hb dX12_offBy_89 rfl (lv_at hl 1 rfl) ?_
            refine vp_callSi (va_Run.run (va_runS (As := [.int nk]) (rest := []) ⟨hx, hb, hml, hown, hts⟩ (k_offByWeight l dC dI nk) (va_cwS 1 hts gX12_offBy_X12_offByWeight rfl rfl rfl (by decide +kernel) ⟨Nat.le_of_ble_eq_true rfl, Nat.le_of_ble_eq_true rfl⟩) ⟨fun a U g mk q => ⟨q.1, trivial⟩, fun U hU hW => ⟨rfl, trivial⟩⟩ rfl rfl hl.1 rfl (lv_room (Nat.le_of_ble_eq_true rfl)) dX12_offBy_90 ⟨Nat.le_of_ble_eq_true rfl, Nat.le_of_ble_eq_true rfl⟩)) (fun r_12 hw_13 => ?_)
            obtain rfl : (zW nk) = r_12 := hw_13.symm
            exact W.iret (v := (zW nk)) hx hb hr (fun t ht hW => ⟨(zW nk), rfl, (show (zW nk) = zH nk from by unfold zH; exact ((if_neg c_8).trans ((if_neg c_9).trans ((if_neg c_10).trans (if_neg c_11)))).symm), ht⟩) (fun _ h => absurd h List.not_mem_nil) dX12_offBy_93
          · refine lv_iconst (v := 3) hx hb dX12_offBy_85 (by decide) ?_
            refine lv_goto (tgt := 93) hx hb dX12_offBy_86 (by decide) ?_
            exact W.iret (v := 3) hx hb hr (fun t ht hW => ⟨3, rfl, (show 3 = zH nk from by unfold zH; exact ((if_neg c_8).trans ((if_neg c_9).trans ((if_neg c_10).trans (if_pos c_11)))).symm), ht⟩) (fun _ h => absurd h List.not_mem_nil) dX12_offBy_93
      · refine lv_bipush (v := (-3)) hx hb dX12_offBy_68 (by decide) ?_
        refine lv_goto (tgt := 93) hx hb dX12_offBy_70 (by decide) ?_
        exact W.iret (v := (-3)) hx hb hr (fun t ht hW => ⟨(-3), rfl, (show (-3) = zH nk from by unfold zH; exact ((if_neg c_8).trans (if_pos c_9)).symm), ht⟩) (fun _ h => absurd h List.not_mem_nil) dX12_offBy_93
  · refine lv_tableIn (off := 93) (tgt := 94) hx hb dX12_offBy_1 (by decide) (by decide) (by decide) (by decide) ?_
    refine lv_iload_n hx hb dX12_offBy_94 rfl (lv_at hl 1 rfl) ?_
    refine lv_iconst (v := 2) hx hb dX12_offBy_95 (by decide) ?_
    refine lv_idiv hx hb dX12_offBy_96 (by decide) ?_
    refine vp_callSi (va_Run.run (va_runS (As := [.int (nk / 2)]) (rest := []) ⟨hx, hb, hml, hown, hts⟩ (k_offByOnes l dC dI (nk / 2)) (va_cwS 1 hts gX12_offBy_X12_offByOnes rfl rfl rfl (by decide +kernel) ⟨Nat.le_of_ble_eq_true rfl, Nat.le_of_ble_eq_true rfl⟩) ⟨fun a U g mk q => ⟨q.1, trivial⟩, fun U hU hW => ⟨rfl, trivial⟩⟩ rfl rfl hl.1 rfl (lv_room (Nat.le_of_ble_eq_true rfl)) dX12_offBy_97 ⟨Nat.le_of_ble_eq_true rfl, Nat.le_of_ble_eq_true rfl⟩)) (fun r_14 hw_15 => ?_)
    obtain rfl : (yO (nk / 2)) = r_14 := hw_15.symm
    exact W.iret (v := (yO (nk / 2))) hx hb hr (fun t ht hW => ⟨(yO (nk / 2)), rfl, rfl, ht⟩) (fun _ h => absurd h List.not_mem_nil) dX12_offBy_100
  · refine lv_tableIn (off := 100) (tgt := 101) hx hb dX12_offBy_1 (by decide) (by decide) (by decide) (by decide) ?_
    refine lv_iload_n hx hb dX12_offBy_101 rfl (lv_at hl 1 rfl) ?_
    refine lv_i2l (v := nk.toInt64) hx hb dX12_offBy_102 rfl ?_
    refine lv_ldc2 hx hb hown (hts (.constantLong RX12 122 (6)) (by decide +kernel)) dX12_offBy_103 ?_
    refine lv_ldc2 hx hb hown (hts (.constantLong RX12 124 (8)) (by decide +kernel)) dX12_offBy_106 ?_
    refine vp_callSi (va_Run.run (va_runS (As := [.long nk.toInt64, .long 6, .long 8]) (rest := []) ⟨hx, hb, hml, hown, hts⟩ (k_in l dC dI nk.toInt64 6 8) (va_cwS 3 hts gX12_offBy_X12_in rfl rfl rfl (by decide +kernel) ⟨Nat.le_of_ble_eq_true rfl, Nat.le_of_ble_eq_true rfl⟩) ⟨fun a U g mk q => ⟨q.1, trivial⟩, fun U hU hW => ⟨rfl, trivial⟩⟩ rfl rfl hl.1 rfl (lv_room (Nat.le_of_ble_eq_true rfl)) dX12_offBy_109 ⟨Nat.le_of_ble_eq_true rfl, Nat.le_of_ble_eq_true rfl⟩)) (fun r_16 hw_17 => ?_)
    by_cases hc_18 : 6 ≤ nk ∧ nk ≤ 8
    · obtain rfl : 1 = r_16 := (hw_17.trans (if_pos ((tz_in64 (by first | rfl | decide) rfl (by first | rfl | decide)).mpr hc_18))).symm
      refine lv_if_eq (tgt := 120) hx hb dX12_offBy_112 (by decide) (fun c_19 => ?_) (fun c_19 => ?_)
      · exact absurd c_19 (by decide)
      · refine lv_bipush (v := (-2)) hx hb dX12_offBy_115 (by decide) ?_
        refine lv_goto (tgt := 126) hx hb dX12_offBy_117 (by decide) ?_
        exact W.iret (v := (-2)) hx hb hr (fun t ht hW => ⟨(-2), rfl, (show (-2) = yK nk from by unfold yK; exact (if_pos hc_18).symm), ht⟩) (fun _ h => absurd h List.not_mem_nil) dX12_offBy_126
    · obtain rfl : 0 = r_16 := (hw_17.trans (if_neg (fun z => hc_18 ((tz_in64 (by first | rfl | decide) rfl (by first | rfl | decide)).mp z)))).symm
      refine lv_if_eq (tgt := 120) hx hb dX12_offBy_112 (by decide) (fun c_20 => ?_) (fun c_20 => ?_)
      · refine lv_iload_n hx hb dX12_offBy_120 rfl (lv_at hl 1 rfl) ?_
        refine lv_iconst (v := 2) hx hb dX12_offBy_121 (by decide) ?_
        refine lv_idiv hx hb dX12_offBy_122 (by decide) ?_
        refine vp_callSi (va_Run.run (va_runS (As := [.int (nk / 2)]) (rest := []) ⟨hx, hb, hml, hown, hts⟩ (k_offByOnes l dC dI (nk / 2)) (va_cwS 1 hts gX12_offBy_X12_offByOnes rfl rfl rfl (by decide +kernel) ⟨Nat.le_of_ble_eq_true rfl, Nat.le_of_ble_eq_true rfl⟩) ⟨fun a U g mk q => ⟨q.1, trivial⟩, fun U hU hW => ⟨rfl, trivial⟩⟩ rfl rfl hl.1 rfl (lv_room (Nat.le_of_ble_eq_true rfl)) dX12_offBy_123 ⟨Nat.le_of_ble_eq_true rfl, Nat.le_of_ble_eq_true rfl⟩)) (fun r_21 hw_22 => ?_)
        obtain rfl : (yO (nk / 2)) = r_21 := hw_22.symm
        exact W.iret (v := (yO (nk / 2))) hx hb hr (fun t ht hW => ⟨(yO (nk / 2)), rfl, (show (yO (nk / 2)) = yK nk from by unfold yK; exact (if_neg hc_18).symm), ht⟩) (fun _ h => absurd h List.not_mem_nil) dX12_offBy_126
      · exact absurd c_20 (by decide)
theorem dX12_minutesOf_0 : decode cX12_minutesOf 0 = .ok (.iload_n 0, 1) := by decide +kernel
theorem dX12_minutesOf_1 : decode cX12_minutesOf 1 = .ok (.ifCond .ne 7, 3) := by decide +kernel
theorem dX12_minutesOf_8 : decode cX12_minutesOf 8 = .ok (.iload_n 0, 1) := by decide +kernel
theorem dX12_minutesOf_9 : decode cX12_minutesOf 9 = .ok (.iconst 1, 1) := by decide +kernel
theorem dX12_minutesOf_10 : decode cX12_minutesOf 10 = .ok (.if_icmp .ne 7, 3) := by decide +kernel
theorem dX12_minutesOf_17 : decode cX12_minutesOf 17 = .ok (.iload_n 0, 1) := by decide +kernel
theorem dX12_minutesOf_18 : decode cX12_minutesOf 18 = .ok (.iconst 2, 1) := by decide +kernel
theorem dX12_minutesOf_19 : decode cX12_minutesOf 19 = .ok (.if_icmp .eq 8, 3) := by decide +kernel
theorem dX12_minutesOf_27 : decode cX12_minutesOf 27 = .ok (.iconst 1, 1) := by decide +kernel
theorem dX12_minutesOf_28 : decode cX12_minutesOf 28 = .ok (.goto 5, 3) := by decide +kernel
theorem dX12_minutesOf_33 : decode cX12_minutesOf 33 = .ok (.ireturn, 1) := by decide +kernel
theorem dX12_minutesOf_22 : decode cX12_minutesOf 22 = .ok (.iload_n 0, 1) := by decide +kernel
theorem dX12_minutesOf_23 : decode cX12_minutesOf 23 = .ok (.iconst 3, 1) := by decide +kernel
theorem dX12_minutesOf_24 : decode cX12_minutesOf 24 = .ok (.if_icmp .ne 7, 3) := by decide +kernel
theorem dX12_minutesOf_31 : decode cX12_minutesOf 31 = .ok (.bipush 7, 2) := by decide +kernel
theorem dX12_minutesOf_13 : decode cX12_minutesOf 13 = .ok (.iconst 3, 1) := by decide +kernel
theorem dX12_minutesOf_14 : decode cX12_minutesOf 14 = .ok (.goto 19, 3) := by decide +kernel
theorem dX12_minutesOf_4 : decode cX12_minutesOf 4 = .ok (.iconst 5, 1) := by decide +kernel
theorem dX12_minutesOf_5 : decode cX12_minutesOf 5 = .ok (.goto 28, 3) := by decide +kernel
set_option maxHeartbeats 4000000 in
set_option maxRecDepth 100000 in
theorem k_minutesOf (l : Launch) (dC : Nat → ClassId) (dI : Nat → Nat → Nat) (nk : Int32) : Met l yX12_minutesOf wsX12_minutesOf ({ frames := 0, cells := 0, slots := 0, locals := 0 }) (va_Pc [.int nk] (fun _ => True)) (vp_Si (fun r => r = (zM nk))) 0 0 (fun _ => False) := by
  refine Met.ofW (cc := cX12_minutesOf) (maxL := 1) (ret := (some .int)) (by decide) rfl ?_
  intro p e s m args below meth c s₁ B hml hv
  obtain ⟨rfl, -⟩ := hv
  have hx := B.exec
  have hb := B.bytes
  have hr := B.returns
  have hts := atoms_spec (ws := wsX12_minutesOf) B.pre
  have hown : s.vm.findClass RX12 = some m.cls := findClass_of_methodNamed B.named
  have hlocks := B.notSynchronized
  have hl := lv_entry ([.int nk]) (n := 1) (Nat.le_of_ble_eq_true rfl)
  rw [lg_entry_eq]
  generalize (lg_sl ([.int nk]) ++ List.replicate (1 - (lg_sl ([.int nk])).length) Slot.unset).toArray = ls at hl ⊢
  have hl : lv_has ls 1 [(0, .int nk)] := hl
  refine lv_iload_n hx hb dX12_minutesOf_0 rfl (lv_at hl 0 rfl) ?_
  refine lv_if_ne (tgt := 8) hx hb dX12_minutesOf_1 (by decide) (fun c_1 => ?_) (fun c_1 => ?_)
  · refine lv_iload_n hx hb dX12_minutesOf_8 rfl (lv_at hl 0 rfl) ?_
    refine lv_iconst (v := 1) hx hb dX12_minutesOf_9 (by decide) ?_
    refine lv_icmp_ne (tgt := 17) hx hb dX12_minutesOf_10 (by decide) (fun c_2 => ?_) (fun c_2 => ?_)
    · refine lv_iload_n hx hb dX12_minutesOf_17 rfl (lv_at hl 0 rfl) ?_
      refine lv_iconst (v := 2) hx hb dX12_minutesOf_18 (by decide) ?_
      refine lv_icmp_eq (tgt := 27) hx hb dX12_minutesOf_19 (by decide) (fun c_3 => ?_) (fun c_3 => ?_)
      · refine lv_iconst (v := 1) hx hb dX12_minutesOf_27 (by decide) ?_
        refine lv_goto (tgt := 33) hx hb dX12_minutesOf_28 (by decide) ?_
        exact W.iret (v := 1) hx hb hr (fun t ht hW => ⟨1, rfl, (show 1 = zM nk from by unfold zM; exact ((if_neg c_1).trans ((if_neg c_2).trans (if_pos c_3))).symm), ht⟩) (fun _ h => absurd h List.not_mem_nil) dX12_minutesOf_33
      · refine lv_iload_n hx hb dX12_minutesOf_22 rfl (lv_at hl 0 rfl) ?_
        refine lv_iconst (v := 3) hx hb dX12_minutesOf_23 (by decide) ?_
        refine lv_icmp_ne (tgt := 31) hx hb dX12_minutesOf_24 (by decide) (fun c_4 => ?_) (fun c_4 => ?_)
        · refine lv_bipush (v := 7) hx hb dX12_minutesOf_31 (by decide) ?_
          exact W.iret (v := 7) hx hb hr (fun t ht hW => ⟨7, rfl, (show 7 = zM nk from by unfold zM; exact ((if_neg c_1).trans ((if_neg c_2).trans ((if_neg c_3).trans (if_neg c_4)))).symm), ht⟩) (fun _ h => absurd h List.not_mem_nil) dX12_minutesOf_33
        · refine lv_iconst (v := 1) hx hb dX12_minutesOf_27 (by decide) ?_
          refine lv_goto (tgt := 33) hx hb dX12_minutesOf_28 (by decide) ?_
          exact W.iret (v := 1) hx hb hr (fun t ht hW => ⟨1, rfl, (show 1 = zM nk from by unfold zM; exact ((if_neg c_1).trans ((if_neg c_2).trans ((if_neg c_3).trans (if_pos c_4)))).symm), ht⟩) (fun _ h => absurd h List.not_mem_nil) dX12_minutesOf_33
    · refine lv_iconst (v := 3) hx hb dX12_minutesOf_13 (by decide) ?_
      refine lv_goto (tgt := 33) hx hb dX12_minutesOf_14 (by decide) ?_
      exact W.iret (v := 3) hx hb hr (fun t ht hW => ⟨3, rfl, (show 3 = zM nk from by unfold zM; exact ((if_neg c_1).trans (if_pos c_2)).symm), ht⟩) (fun _ h => absurd h List.not_mem_nil) dX12_minutesOf_33
  · refine lv_iconst (v := 5) hx hb dX12_minutesOf_4 (by decide) ?_
    refine lv_goto (tgt := 33) hx hb dX12_minutesOf_5 (by decide) ?_
    exact W.iret (v := 5) hx hb hr (fun t ht hW => ⟨5, rfl, (show 5 = zM nk from by unfold zM; exact (if_pos c_1).symm), ht⟩) (fun _ h => absurd h List.not_mem_nil) dX12_minutesOf_33
set_option maxRecDepth 20000 in
theorem ggX12_oddsOf_X12_offBy : GoodIn wsX12_oddsOf wsX12_offBy := goodIn_r _ [4, 5, 6, 7, 8, 3, 9, 10, 11, 12, 13, 14, 15] (by decide +kernel) (by decide +kernel)
set_option maxRecDepth 20000 in
theorem gX12_oddsOf_X12_offBy : GoodIn wsX12_oddsOf (va_wsS RX12 126 yX12_offBy wsX12_offBy) := goodIn_app (goodIn_of _ (by decide +kernel)) ggX12_oddsOf_X12_offBy
theorem dX12_oddsOf_0 : decode cX12_oddsOf 0 = .ok (.iconst 0, 1) := by decide +kernel
theorem dX12_oddsOf_1 : decode cX12_oddsOf 1 = .ok (.istore_n 2, 1) := by decide +kernel
theorem dX12_oddsOf_2 : decode cX12_oddsOf 2 = .ok (.iconst 0, 1) := by decide +kernel
theorem dX12_oddsOf_3 : decode cX12_oddsOf 3 = .ok (.istore_n 3, 1) := by decide +kernel
theorem dX12_oddsOf_4 : decode cX12_oddsOf 4 = .ok (.iload_n 3, 1) := by decide +kernel
theorem dX12_oddsOf_5 : decode cX12_oddsOf 5 = .ok (.bipush 20, 2) := by decide +kernel
theorem dX12_oddsOf_7 : decode cX12_oddsOf 7 = .ok (.if_icmp .ge 26, 3) := by decide +kernel
theorem dX12_oddsOf_33 : decode cX12_oddsOf 33 = .ok (.iload_n 2, 1) := by decide +kernel
theorem dX12_oddsOf_34 : decode cX12_oddsOf 34 = .ok (.ireturn, 1) := by decide +kernel
theorem dX12_oddsOf_10 : decode cX12_oddsOf 10 = .ok (.iload_n 2, 1) := by decide +kernel
theorem dX12_oddsOf_11 : decode cX12_oddsOf 11 = .ok (.iload_n 0, 1) := by decide +kernel
theorem dX12_oddsOf_12 : decode cX12_oddsOf 12 = .ok (.iload_n 3, 1) := by decide +kernel
theorem dX12_oddsOf_13 : decode cX12_oddsOf 13 = .ok (.invokestatic 126, 3) := by decide +kernel
theorem dX12_oddsOf_16 : decode cX12_oddsOf 16 = .ok (.iload_n 1, 1) := by decide +kernel
theorem dX12_oddsOf_17 : decode cX12_oddsOf 17 = .ok (.if_icmp .ne 7, 3) := by decide +kernel
theorem dX12_oddsOf_24 : decode cX12_oddsOf 24 = .ok (.iconst 0, 1) := by decide +kernel
theorem dX12_oddsOf_25 : decode cX12_oddsOf 25 = .ok (.iadd, 1) := by decide +kernel
theorem dX12_oddsOf_26 : decode cX12_oddsOf 26 = .ok (.istore_n 2, 1) := by decide +kernel
theorem dX12_oddsOf_27 : decode cX12_oddsOf 27 = .ok (.iinc 3 1, 3) := by decide +kernel
theorem dX12_oddsOf_30 : decode cX12_oddsOf 30 = .ok (.goto (-26), 3) := by decide +kernel
theorem dX12_oddsOf_20 : decode cX12_oddsOf 20 = .ok (.iconst 1, 1) := by decide +kernel
theorem dX12_oddsOf_21 : decode cX12_oddsOf 21 = .ok (.goto 4, 3) := by decide +kernel
set_option maxHeartbeats 4000000 in
set_option maxRecDepth 100000 in
theorem k_oddsOf (l : Launch) (dC : Nat → ClassId) (dI : Nat → Nat → Nat) (na : Int32) (nv : Int32) (hna : 0 ≤ na ∧ na ≤ 5) : Met l yX12_oddsOf wsX12_oddsOf ({ frames := 2, cells := 0, slots := 0, locals := 46 }) (va_Pc [.int na, .int nv] (fun _ => True)) (vp_Si (fun r => r = (zN (yS na) nv 20))) 0 0 (fun _ => False) := by
  refine Met.ofW (cc := cX12_oddsOf) (maxL := 4) (ret := (some .int)) (by decide) rfl ?_
  intro p e s m args below meth c s₁ B hml hv
  obtain ⟨rfl, -⟩ := hv
  have hx := B.exec
  have hb := B.bytes
  have hr := B.returns
  have hts := atoms_spec (ws := wsX12_oddsOf) B.pre
  have hown : s.vm.findClass RX12 = some m.cls := findClass_of_methodNamed B.named
  have hlocks := B.notSynchronized
  have hl := lv_entry ([.int na, .int nv]) (n := 4) (Nat.le_of_ble_eq_true rfl)
  rw [lg_entry_eq]
  generalize (lg_sl ([.int na, .int nv]) ++ List.replicate (4 - (lg_sl ([.int na, .int nv])).length) Slot.unset).toArray = ls at hl ⊢
  have hl : lv_has ls 4 [(0, .int na), (1, .int nv)] := hl
  refine lv_iconst (v := 0) hx hb dX12_oddsOf_0 (by decide) ?_
  refine lv_istore_n (lv' := [(2, .int 0), (0, .int na), (1, .int nv)]) hx hb dX12_oddsOf_1 rfl hl (by decide) rfl (fun ls hl => ?_)
  refine lv_iconst (v := 0) hx hb dX12_oddsOf_2 (by decide) ?_
  refine lv_istore_n (lv' := [(3, .int 0), (2, .int 0), (0, .int na), (1, .int nv)]) hx hb dX12_oddsOf_3 rfl hl (by decide) rfl (fun ls hl => ?_)
  refine tz_for (σ := Int32 × Int32 × Array Slot) (fun x => W p l e _ s m _ below meth c _ _ _ _ _ (F0 m 4 x.2.2 [])) (fun i x => x.1 = nI i ∧ x.2.1 = zN (yS na) nv i ∧ lv_has x.2.2 4 [(3, .int x.1), (2, .int x.2.1), (0, .int na), (1, .int nv)]) 20 ?_ ?_ (0, 0, ls) ⟨rfl, rfl, lv_sub hl [0, 1, 2, 3] rfl⟩
  · rintro ⟨kk, od, ls⟩ ⟨ek, eo, hl⟩
    dsimp only at ek eo hl ⊢
    obtain rfl : 20 = kk := ek.symm
    obtain rfl : zN (yS na) nv 20 = od := eo.symm
    refine lv_iload_n hx hb dX12_oddsOf_4 rfl (lv_at hl 0 rfl) ?_
    refine lv_bipush (v := 20) hx hb dX12_oddsOf_5 (by decide) ?_
    refine lv_icmp_ge (tgt := 33) hx hb dX12_oddsOf_7 (by decide) (fun c_1 => ?_) (fun c_1 => ?_)
    · refine lv_iload_n hx hb dX12_oddsOf_33 rfl (lv_at hl 1 rfl) ?_
      exact W.iret (v := (zN (yS na) nv 20)) hx hb hr (fun t ht hW => ⟨(zN (yS na) nv 20), rfl, rfl, ht⟩) (fun _ h => absurd h List.not_mem_nil) dX12_oddsOf_34
    · exact absurd c_1 (by decide)
  · rintro ii ⟨kk, od, ls⟩ hi ⟨ek, eo, hl⟩ ih
    dsimp only at ek eo hl ⊢
    refine lv_iload_n hx hb dX12_oddsOf_4 rfl (lv_at hl 0 rfl) ?_
    refine lv_bipush (v := 20) hx hb dX12_oddsOf_5 (by decide) ?_
    refine lv_icmp_ge (tgt := 33) hx hb dX12_oddsOf_7 (by decide) (fun c_2 => ?_) (fun c_2 => ?_)
    · exact absurd c_2 (by rw [ek]; exact nI_ge (b := 20) hi (by decide))
    · refine lv_iload_n hx hb dX12_oddsOf_10 rfl (lv_at hl 1 rfl) ?_
      refine lv_iload_n hx hb dX12_oddsOf_11 rfl (lv_at hl 2 rfl) ?_
      refine lv_iload_n hx hb dX12_oddsOf_12 rfl (lv_at hl 0 rfl) ?_
      refine vp_callSi (va_Run.run (va_runS (As := [.int na, .int kk]) (rest := [.int od]) ⟨hx, hb, hml, hown, hts⟩ (k_offBy l dC dI na kk hna) (va_cwS 2 hts gX12_oddsOf_X12_offBy rfl rfl rfl (by decide +kernel) ⟨Nat.le_of_ble_eq_true rfl, Nat.le_of_ble_eq_true rfl⟩) ⟨fun a U g mk q => ⟨q.1, trivial⟩, fun U hU hW => ⟨rfl, trivial⟩⟩ rfl rfl hl.1 rfl (lv_room (Nat.le_of_ble_eq_true rfl)) dX12_oddsOf_13 ⟨Nat.le_of_ble_eq_true rfl, Nat.le_of_ble_eq_true rfl⟩)) (fun r_3 hw_4 => ?_)
      obtain rfl : (yS na kk) = r_3 := hw_4.symm
      refine lv_iload_n hx hb dX12_oddsOf_16 rfl (lv_at hl 3 rfl) ?_
      refine lv_icmp_ne (tgt := 24) hx hb dX12_oddsOf_17 (by decide) (fun c_5 => ?_) (fun c_5 => ?_)
      · refine lv_iconst (v := 0) hx hb dX12_oddsOf_24 (by decide) ?_
        refine lv_iadd hx hb dX12_oddsOf_25 ?_
        refine lv_istore_n (lv' := [(2, .int (od + 0)), (3, .int kk), (0, .int na), (1, .int nv)]) hx hb dX12_oddsOf_26 rfl hl (by decide) rfl (fun ls hl => ?_)
        refine lv_iinc (v := (kk + 1)) (lv' := [(3, .int (kk + 1)), (2, .int (od + 0)), (0, .int na), (1, .int nv)]) hx hb dX12_oddsOf_27 hl (k := 1) rfl rfl (by decide) rfl (fun ls hl => ?_)
        refine lv_goto (tgt := 4) hx hb dX12_oddsOf_30 (by decide) ?_
        exact ih (kk + 1, (od + 0), ls) ⟨by rw [ek]; exact nI_1 ii, by rw [zN, if_neg (ek ▸ c_5), ← eo, Int32.add_zero], lv_sub hl [0, 1, 2, 3] rfl⟩
      · refine lv_iconst (v := 1) hx hb dX12_oddsOf_20 (by decide) ?_
        refine lv_goto (tgt := 25) hx hb dX12_oddsOf_21 (by decide) ?_
        refine lv_iadd hx hb dX12_oddsOf_25 ?_
        refine lv_istore_n (lv' := [(2, .int (od + 1)), (3, .int kk), (0, .int na), (1, .int nv)]) hx hb dX12_oddsOf_26 rfl hl (by decide) rfl (fun ls hl => ?_)
        refine lv_iinc (v := (kk + 1)) (lv' := [(3, .int (kk + 1)), (2, .int (od + 1)), (0, .int na), (1, .int nv)]) hx hb dX12_oddsOf_27 hl (k := 1) rfl rfl (by decide) rfl (fun ls hl => ?_)
        refine lv_goto (tgt := 4) hx hb dX12_oddsOf_30 (by decide) ?_
        exact ih (kk + 1, (od + 1), ls) ⟨by rw [ek]; exact nI_1 ii, by rw [zN, if_pos (ek ▸ c_5), ← eo], lv_sub hl [0, 1, 2, 3] rfl⟩
theorem dX12_laySought_0 : decode cX12_laySought 0 = .ok (.aload_n 0, 1) := by decide +kernel
theorem dX12_laySought_1 : decode cX12_laySought 1 = .ok (.iconst 0, 1) := by decide +kernel
theorem dX12_laySought_2 : decode cX12_laySought 2 = .ok (.putfield 218, 3) := by decide +kernel
theorem dX12_laySought_5 : decode cX12_laySought 5 = .ok (.iconst 0, 1) := by decide +kernel
theorem dX12_laySought_6 : decode cX12_laySought 6 = .ok (.istore_n 2, 1) := by decide +kernel
theorem dX12_laySought_7 : decode cX12_laySought 7 = .ok (.iload_n 2, 1) := by decide +kernel
theorem dX12_laySought_8 : decode cX12_laySought 8 = .ok (.aload_n 0, 1) := by decide +kernel
theorem dX12_laySought_9 : decode cX12_laySought 9 = .ok (.getfield 7, 3) := by decide +kernel
theorem dX12_laySought_12 : decode cX12_laySought 12 = .ok (.iconst 3, 1) := by decide +kernel
theorem dX12_laySought_13 : decode cX12_laySought 13 = .ok (.iaload, 1) := by decide +kernel
theorem dX12_laySought_14 : decode cX12_laySought 14 = .ok (.if_icmp .ge 49, 3) := by decide +kernel
theorem dX12_laySought_63 : decode cX12_laySought 63 = .ok (.return_, 1) := by decide +kernel
set_option maxRecDepth 20000 in
theorem iw_k_laySought_X12 : ∀ w ∈ wsX120, w ∈ wsX12_laySought := by decide +kernel
set_option maxHeartbeats 4000000 in
set_option maxRecDepth 100000 in
theorem k_laySought (l : Launch) (dC : Nat → ClassId) (dI : Nat → Nat → Nat) (mo : Nat) (nw : Nat) (kp : Nat) (ik : Nat) (mr : Nat) (mw : Nat) (mq : Nat) (mz : Nat) (my : Nat) (mb : Nat) (mx : Nat) (mv : Nat) (cn : ClassId) (na : Int32) (sz : Nat) : Met l yX12_laySought wsX12_laySought ({ frames := 0, cells := 0, slots := 0, locals := 0 }) (va_Pc [.ref mo, .int na] (fun U => U.heap.size = sz ∧ va_P (dC, dI) vwCl [(mo, .inr (12, [.ref nw, .ref kp, .ref ik, .ref mr, .long 0, .long 1, .ref mw, .long 0, .int 0, .int 0, .long 0, .long 0, .ref mq, .ref mz, .ref my, .int 0, .ref mb, .int 0, .int 0, .int 0, .int 0, .int 0, .ref mx, .ref mv])), (nw, .inl (cn, 350, .inl (fun _ => 0)))] U.heap ∧ va_K (dC, dI) vwCl [(cn, .int)] U ∧ va_D (fun _ => True) [(mo, .inr (12, [.ref nw, .ref kp, .ref ik, .ref mr, .long 0, .long 1, .ref mw, .long 0, .int 0, .int 0, .long 0, .long 0, .ref mq, .ref mz, .ref my, .int 0, .ref mb, .int 0, .int 0, .int 0, .int 0, .int 0, .ref mx, .ref mv])), (nw, .inl (cn, 350, .inl (fun _ => 0)))])) (va_Qv (fun (_ : Unit) => True) (fun _ t => va_P (dC, dI) vwCl [(mo, .inr (12, [.ref nw, .ref kp, .ref ik, .ref mr, .long 0, .long 1, .ref mw, .long 0, .int 0, .int 0, .long 0, .long 0, .ref mq, .ref mz, .ref my, .int 0, .ref mb, .int 0, .int 0, .int 0, .int 0, .int 0, .ref mx, .ref mv])), (nw, .inl (cn, 350, .inl (fun _ => 0)))] t.heap ∧ va_K (dC, dI) vwCl [(cn, .int)] t ∧ va_D (va_A [(mo, .inr (12, [.ref nw, .ref kp, .ref ik, .ref mr, .long 0, .long 1, .ref mw, .long 0, .int 0, .int 0, .long 0, .long 0, .ref mq, .ref mz, .ref my, .int 0, .ref mb, .int 0, .int 0, .int 0, .int 0, .int 0, .ref mx, .ref mv])), (nw, .inl (cn, 350, .inl (fun _ => 0)))] sz) [(mo, .inr (12, [.ref nw, .ref kp, .ref ik, .ref mr, .long 0, .long 1, .ref mw, .long 0, .int 0, .int 0, .long 0, .long 0, .ref mq, .ref mz, .ref my, .int 0, .ref mb, .int 0, .int 0, .int 0, .int 0, .int 0, .ref mx, .ref mv])), (nw, .inl (cn, 350, .inl (fun _ => 0)))]) (va_A [(mo, .inr (12, [.ref nw, .ref kp, .ref ik, .ref mr, .long 0, .long 1, .ref mw, .long 0, .int 0, .int 0, .long 0, .long 0, .ref mq, .ref mz, .ref my, .int 0, .ref mb, .int 0, .int 0, .int 0, .int 0, .int 0, .ref mx, .ref mv])), (nw, .inl (cn, 350, .inl (fun _ => 0)))] sz)) 0 0 (va_A [(mo, .inr (12, [.ref nw, .ref kp, .ref ik, .ref mr, .long 0, .long 1, .ref mw, .long 0, .int 0, .int 0, .long 0, .long 0, .ref mq, .ref mz, .ref my, .int 0, .ref mb, .int 0, .int 0, .int 0, .int 0, .int 0, .ref mx, .ref mv])), (nw, .inl (cn, 350, .inl (fun _ => 0)))] sz) := by
  refine Met.ofW (cc := cX12_laySought) (maxL := 3) (ret := none) (by decide) rfl ?_
  intro p e s m args below meth c s₁ B hml hv
  obtain ⟨rfl, hsz, hP, hK, hD0⟩ := hv
  have hx := B.exec
  have hb := B.bytes
  have hr := B.returns
  have hts := atoms_spec (ws := wsX12_laySought) B.pre
  have hown : s.vm.findClass RX12 = some m.cls := findClass_of_methodNamed B.named
  have hlocks := B.notSynchronized
  subst hsz
  have hD := hD0.self (sz := s.heap.size)
  generalize hAe : va_A [(mo, .inr (12, [.ref nw, .ref kp, .ref ik, .ref mr, .long 0, .long 1, .ref mw, .long 0, .int 0, .int 0, .long 0, .long 0, .ref mq, .ref mz, .ref my, .int 0, .ref mb, .int 0, .int 0, .int 0, .int 0, .int 0, .ref mx, .ref mv])), (nw, .inl (cn, 350, .inl (fun _ => 0)))] s.heap.size = A at hD ⊢
  have hA : ∀ q : Nat, s.heap.size ≤ q → A q := fun q h => by rw [← hAe]; exact Or.inr h
  have hS : va_S A s.heap s.heap [] := va_S.rf
  have hP : va_P (dC, dI) vwCl [(mo, .inr (12, [.ref nw, .ref kp, .ref ik, .ref mr, .long 0, .long 1, .ref mw, .long 0, .int 0, .int 0, .long 0, .long 0, .ref mq, .ref mz, .ref my, .int 0, .ref mb, .int 0, .int 0, .int 0, .int 0, .int 0, .ref mx, .ref mv])), (nw, .inl (cn, 350, .inl (fun _ => 0)))] s.heap := hP
  have hl := lv_entry ([.ref mo, .int na]) (n := 3) (Nat.le_of_ble_eq_true rfl)
  rw [lg_entry_eq]
  generalize (lg_sl ([.ref mo, .int na]) ++ List.replicate (3 - (lg_sl ([.ref mo, .int na])).length) Slot.unset).toArray = ls at hl ⊢
  have hl : lv_has ls 3 [(0, .ref mo), (1, .int na)] := hl
  refine lv_aload_n hx hb dX12_laySought_0 rfl (lv_at hl 0 rfl) ?_
  refine lv_iconst (v := 0) hx hb dX12_laySought_1 (by decide) ?_
  refine va_put (D := (dC, dI)) (ci := 12) (v := .int 0) (ty := .int) (C := RX12) (T := TX12) (N := 24) hx hb hts iw_k_laySought_X12 tyX12 tyX12_ok nmX12 hown hK hP hD hS 0 rfl rfl 15 (by decide) (hts (.fieldLink RX12 218 "ThriceCountedModel" "soughtMany" "I") (by decide +kernel)) (fun _ h9 => h9) rfl (by decide +kernel) rfl rfl (Nat.le_of_ble_eq_true rfl) dX12_laySought_2 (fun H locs hP hD hS => ?_)
  have hP : va_P (dC, dI) vwCl [(mo, .inr (12, [.ref nw, .ref kp, .ref ik, .ref mr, .long 0, .long 1, .ref mw, .long 0, .int 0, .int 0, .long 0, .long 0, .ref mq, .ref mz, .ref my, .int 0, .ref mb, .int 0, .int 0, .int 0, .int 0, .int 0, .ref mx, .ref mv])), (nw, .inl (cn, 350, .inl (fun _ => 0)))] H := hP
  have hD : va_D A [(mo, .inr (12, [.ref nw, .ref kp, .ref ik, .ref mr, .long 0, .long 1, .ref mw, .long 0, .int 0, .int 0, .long 0, .long 0, .ref mq, .ref mz, .ref my, .int 0, .ref mb, .int 0, .int 0, .int 0, .int 0, .int 0, .ref mx, .ref mv])), (nw, .inl (cn, 350, .inl (fun _ => 0)))] := hD
  refine lv_iconst (v := 0) hx hb dX12_laySought_5 (by decide) ?_
  refine lv_istore_n (lv' := [(2, .int 0), (0, .ref mo), (1, .int na)]) hx hb dX12_laySought_6 rfl hl (by decide) rfl (fun ls hl => ?_)
  refine lv_iload_n hx hb dX12_laySought_7 rfl (lv_at hl 0 rfl) ?_
  refine lv_aload_n hx hb dX12_laySought_8 rfl (lv_at hl 1 rfl) ?_
  refine va_get (D := (dC, dI)) (ci := 12) (v := .ref nw) (C := RX12) (T := TX12) (N := 24) hx hb hts iw_k_laySought_X12 hown hK hP 0 rfl rfl 0 (by decide) (hts (.fieldLink RX12 7 "ThriceCountedModel" "now" "[I") (by decide +kernel)) (fun _ h9 => h9) rfl dX12_laySought_9 ?_
  refine lv_iconst (v := 3) hx hb dX12_laySought_12 (by decide) ?_
  refine va_iald hx hb hK hP 1 0 rfl rfl (show ¬ ((3 : Int32) < 0 ∨ 350 ≤ (3 : Int32).toNatClampNeg) by decide) dX12_laySought_13 ?_
  refine tz_i 0 rfl ?_
  refine lv_icmp_ge (tgt := 63) hx hb dX12_laySought_14 (by decide) (fun c_1 => ?_) (fun c_1 => ?_)
  · have hP9 := hP.sub (ws' := [(mo, .inr (12, [.ref nw, .ref kp, .ref ik, .ref mr, .long 0, .long 1, .ref mw, .long 0, .int 0, .int 0, .long 0, .long 0, .ref mq, .ref mz, .ref my, .int 0, .ref mb, .int 0, .int 0, .int 0, .int 0, .int 0, .ref mx, .ref mv])), (nw, .inl (cn, 350, .inl (fun _ => 0)))]) [0, 1] rfl
    have hD9 := hD.sub (ws' := [(mo, .inr (12, [.ref nw, .ref kp, .ref ik, .ref mr, .long 0, .long 1, .ref mw, .long 0, .int 0, .int 0, .long 0, .long 0, .ref mq, .ref mz, .ref my, .int 0, .ref mb, .int 0, .int 0, .int 0, .int 0, .int 0, .ref mx, .ref mv])), (nw, .inl (cn, 350, .inl (fun _ => 0)))]) [0, 1] (by decide) rfl
    have hK9 := hK.sub (tys' := [(cn, .int)]) [0] rfl
    exact W.vret hx hb hr (fun t ht hW => ⟨⟨(), rfl, trivial, by rw [ht]; exact hP9, va_K.moved hW.alike hK9, hD9⟩, hS.F ht⟩) hS.2.2 dX12_laySought_63
  · exact absurd c_1 (by decide)
theorem dX12_lookAt_0 : decode cX12_lookAt 0 = .ok (.aload_n 0, 1) := by decide +kernel
theorem dX12_lookAt_1 : decode cX12_lookAt 1 = .ok (.iload_n 1, 1) := by decide +kernel
theorem dX12_lookAt_2 : decode cX12_lookAt 2 = .ok (.putfield 264, 3) := by decide +kernel
theorem dX12_lookAt_5 : decode cX12_lookAt 5 = .ok (.aload_n 0, 1) := by decide +kernel
theorem dX12_lookAt_6 : decode cX12_lookAt 6 = .ok (.getfield 264, 3) := by decide +kernel
theorem dX12_lookAt_9 : decode cX12_lookAt 9 = .ok (.aload_n 0, 1) := by decide +kernel
theorem dX12_lookAt_10 : decode cX12_lookAt 10 = .ok (.getfield 253, 3) := by decide +kernel
theorem dX12_lookAt_13 : decode cX12_lookAt 13 = .ok (.if_icmp .ge 30, 3) := by decide +kernel
theorem dX12_lookAt_43 : decode cX12_lookAt 43 = .ok (.aload_n 0, 1) := by decide +kernel
theorem dX12_lookAt_44 : decode cX12_lookAt 44 = .ok (.iconst 0, 1) := by decide +kernel
theorem dX12_lookAt_45 : decode cX12_lookAt 45 = .ok (.putfield 267, 3) := by decide +kernel
theorem dX12_lookAt_48 : decode cX12_lookAt 48 = .ok (.aload_n 0, 1) := by decide +kernel
theorem dX12_lookAt_49 : decode cX12_lookAt 49 = .ok (.iconst 0, 1) := by decide +kernel
theorem dX12_lookAt_50 : decode cX12_lookAt 50 = .ok (.putfield 270, 3) := by decide +kernel
theorem dX12_lookAt_53 : decode cX12_lookAt 53 = .ok (.aload_n 0, 1) := by decide +kernel
theorem dX12_lookAt_54 : decode cX12_lookAt 54 = .ok (.iconst 0, 1) := by decide +kernel
theorem dX12_lookAt_55 : decode cX12_lookAt 55 = .ok (.putfield 273, 3) := by decide +kernel
theorem dX12_lookAt_58 : decode cX12_lookAt 58 = .ok (.aload_n 0, 1) := by decide +kernel
theorem dX12_lookAt_59 : decode cX12_lookAt 59 = .ok (.getfield 264, 3) := by decide +kernel
theorem dX12_lookAt_62 : decode cX12_lookAt 62 = .ok (.aload_n 0, 1) := by decide +kernel
theorem dX12_lookAt_63 : decode cX12_lookAt 63 = .ok (.getfield 253, 3) := by decide +kernel
theorem dX12_lookAt_66 : decode cX12_lookAt 66 = .ok (.if_icmp .ne 4, 3) := by decide +kernel
theorem dX12_lookAt_69 : decode cX12_lookAt 69 = .ok (.return_, 1) := by decide +kernel
set_option maxRecDepth 20000 in
theorem iw_k_lookAt0_X12 : ∀ w ∈ wsX120, w ∈ wsX12_lookAt := by decide +kernel
set_option maxHeartbeats 4000000 in
set_option maxRecDepth 100000 in
theorem k_lookAt0 (l : Launch) (dC : Nat → ClassId) (dI : Nat → Nat → Nat) (mo : Nat) (nw : Nat) (kp : Nat) (ik : Nat) (mr : Nat) (mw : Nat) (mq : Nat) (mz : Nat) (my : Nat) (mb : Nat) (mx : Nat) (mv : Nat) (sz : Nat) : Met l yX12_lookAt wsX12_lookAt ({ frames := 0, cells := 0, slots := 0, locals := 0 }) (va_Pc [.ref mo, .int 0] (fun U => U.heap.size = sz ∧ va_P (dC, dI) vwCl [(mo, .inr (12, [.ref nw, .ref kp, .ref ik, .ref mr, .long 0, .long 1, .ref mw, .long 0, .int 0, .int 0, .long 0, .long 0, .ref mq, .ref mz, .ref my, .int 0, .ref mb, .int 0, .int 0, .int 0, .int 0, .int 0, .ref mx, .ref mv]))] U.heap ∧ va_K (dC, dI) vwCl [] U ∧ va_D (fun _ => True) [(mo, .inr (12, [.ref nw, .ref kp, .ref ik, .ref mr, .long 0, .long 1, .ref mw, .long 0, .int 0, .int 0, .long 0, .long 0, .ref mq, .ref mz, .ref my, .int 0, .ref mb, .int 0, .int 0, .int 0, .int 0, .int 0, .ref mx, .ref mv]))])) (va_Qv (fun (_ : Unit) => True) (fun _ t => va_P (dC, dI) vwCl [(mo, .inr (12, [.ref nw, .ref kp, .ref ik, .ref mr, .long 0, .long 1, .ref mw, .long 0, .int 0, .int 0, .long 0, .long 0, .ref mq, .ref mz, .ref my, .int 0, .ref mb, .int 0, .int 0, .int 0, .int 0, .int 0, .ref mx, .ref mv]))] t.heap ∧ va_K (dC, dI) vwCl [] t ∧ va_D (va_A [(mo, .inr (12, [.ref nw, .ref kp, .ref ik, .ref mr, .long 0, .long 1, .ref mw, .long 0, .int 0, .int 0, .long 0, .long 0, .ref mq, .ref mz, .ref my, .int 0, .ref mb, .int 0, .int 0, .int 0, .int 0, .int 0, .ref mx, .ref mv]))] sz) [(mo, .inr (12, [.ref nw, .ref kp, .ref ik, .ref mr, .long 0, .long 1, .ref mw, .long 0, .int 0, .int 0, .long 0, .long 0, .ref mq, .ref mz, .ref my, .int 0, .ref mb, .int 0, .int 0, .int 0, .int 0, .int 0, .ref mx, .ref mv]))]) (va_A [(mo, .inr (12, [.ref nw, .ref kp, .ref ik, .ref mr, .long 0, .long 1, .ref mw, .long 0, .int 0, .int 0, .long 0, .long 0, .ref mq, .ref mz, .ref my, .int 0, .ref mb, .int 0, .int 0, .int 0, .int 0, .int 0, .ref mx, .ref mv]))] sz)) 0 0 (va_A [(mo, .inr (12, [.ref nw, .ref kp, .ref ik, .ref mr, .long 0, .long 1, .ref mw, .long 0, .int 0, .int 0, .long 0, .long 0, .ref mq, .ref mz, .ref my, .int 0, .ref mb, .int 0, .int 0, .int 0, .int 0, .int 0, .ref mx, .ref mv]))] sz) := by
  refine Met.ofW (cc := cX12_lookAt) (maxL := 5) (ret := none) (by decide) rfl ?_
  intro p e s m args below meth c s₁ B hml hv
  obtain ⟨rfl, hsz, hP, hK, hD0⟩ := hv
  have hx := B.exec
  have hb := B.bytes
  have hr := B.returns
  have hts := atoms_spec (ws := wsX12_lookAt) B.pre
  have hown : s.vm.findClass RX12 = some m.cls := findClass_of_methodNamed B.named
  have hlocks := B.notSynchronized
  subst hsz
  have hD := hD0.self (sz := s.heap.size)
  generalize hAe : va_A [(mo, .inr (12, [.ref nw, .ref kp, .ref ik, .ref mr, .long 0, .long 1, .ref mw, .long 0, .int 0, .int 0, .long 0, .long 0, .ref mq, .ref mz, .ref my, .int 0, .ref mb, .int 0, .int 0, .int 0, .int 0, .int 0, .ref mx, .ref mv]))] s.heap.size = A at hD ⊢
  have hA : ∀ q : Nat, s.heap.size ≤ q → A q := fun q h => by rw [← hAe]; exact Or.inr h
  have hS : va_S A s.heap s.heap [] := va_S.rf
  have hP : va_P (dC, dI) vwCl [(mo, .inr (12, [.ref nw, .ref kp, .ref ik, .ref mr, .long 0, .long 1, .ref mw, .long 0, .int 0, .int 0, .long 0, .long 0, .ref mq, .ref mz, .ref my, .int 0, .ref mb, .int 0, .int 0, .int 0, .int 0, .int 0, .ref mx, .ref mv]))] s.heap := hP
  have hl := lv_entry ([.ref mo, .int 0]) (n := 5) (Nat.le_of_ble_eq_true rfl)
  rw [lg_entry_eq]
  generalize (lg_sl ([.ref mo, .int 0]) ++ List.replicate (5 - (lg_sl ([.ref mo, .int 0])).length) Slot.unset).toArray = ls at hl ⊢
  have hl : lv_has ls 5 [(0, .ref mo), (1, .int 0)] := hl
  refine lv_aload_n hx hb dX12_lookAt_0 rfl (lv_at hl 0 rfl) ?_
  refine lv_iload_n hx hb dX12_lookAt_1 rfl (lv_at hl 1 rfl) ?_
  refine va_put (D := (dC, dI)) (ci := 12) (v := .int 0) (ty := .int) (C := RX12) (T := TX12) (N := 24) hx hb hts iw_k_lookAt0_X12 tyX12 tyX12_ok nmX12 hown hK hP hD hS 0 rfl rfl 18 (by decide) (hts (.fieldLink RX12 264 "ThriceCountedModel" "tokenAt" "I") (by decide +kernel)) (fun _ h9 => h9) rfl (by decide +kernel) rfl rfl (Nat.le_of_ble_eq_true rfl) dX12_lookAt_2 (fun H locs hP hD hS => ?_)
  have hP : va_P (dC, dI) vwCl [(mo, .inr (12, [.ref nw, .ref kp, .ref ik, .ref mr, .long 0, .long 1, .ref mw, .long 0, .int 0, .int 0, .long 0, .long 0, .ref mq, .ref mz, .ref my, .int 0, .ref mb, .int 0, .int 0, .int 0, .int 0, .int 0, .ref mx, .ref mv]))] H := hP
  have hD : va_D A [(mo, .inr (12, [.ref nw, .ref kp, .ref ik, .ref mr, .long 0, .long 1, .ref mw, .long 0, .int 0, .int 0, .long 0, .long 0, .ref mq, .ref mz, .ref my, .int 0, .ref mb, .int 0, .int 0, .int 0, .int 0, .int 0, .ref mx, .ref mv]))] := hD
  refine lv_aload_n hx hb dX12_lookAt_5 rfl (lv_at hl 0 rfl) ?_
  refine va_get (D := (dC, dI)) (ci := 12) (v := .int 0) (C := RX12) (T := TX12) (N := 24) hx hb hts iw_k_lookAt0_X12 hown hK hP 0 rfl rfl 18 (by decide) (hts (.fieldLink RX12 264 "ThriceCountedModel" "tokenAt" "I") (by decide +kernel)) (fun _ h9 => h9) rfl dX12_lookAt_6 ?_
  refine lv_aload_n hx hb dX12_lookAt_9 rfl (lv_at hl 0 rfl) ?_
  refine va_get (D := (dC, dI)) (ci := 12) (v := .int 0) (C := RX12) (T := TX12) (N := 24) hx hb hts iw_k_lookAt0_X12 hown hK hP 0 rfl rfl 17 (by decide) (hts (.fieldLink RX12 253 "ThriceCountedModel" "bytesLong" "I") (by decide +kernel)) (fun _ h9 => h9) rfl dX12_lookAt_10 ?_
  refine lv_icmp_ge (tgt := 43) hx hb dX12_lookAt_13 (by decide) (fun c_1 => ?_) (fun c_1 => ?_)
  · refine lv_aload_n hx hb dX12_lookAt_43 rfl (lv_at hl 0 rfl) ?_
    refine lv_iconst (v := 0) hx hb dX12_lookAt_44 (by decide) ?_
    refine va_put (D := (dC, dI)) (ci := 12) (v := .int 0) (ty := .int) (C := RX12) (T := TX12) (N := 24) hx hb hts iw_k_lookAt0_X12 tyX12 tyX12_ok nmX12 hown hK hP hD hS 0 rfl rfl 19 (by decide) (hts (.fieldLink RX12 267 "ThriceCountedModel" "tokenLong" "I") (by decide +kernel)) (fun _ h9 => h9) rfl (by decide +kernel) rfl rfl (Nat.le_of_ble_eq_true rfl) dX12_lookAt_45 (fun H locs hP hD hS => ?_)
    have hP : va_P (dC, dI) vwCl [(mo, .inr (12, [.ref nw, .ref kp, .ref ik, .ref mr, .long 0, .long 1, .ref mw, .long 0, .int 0, .int 0, .long 0, .long 0, .ref mq, .ref mz, .ref my, .int 0, .ref mb, .int 0, .int 0, .int 0, .int 0, .int 0, .ref mx, .ref mv]))] H := hP
    have hD : va_D A [(mo, .inr (12, [.ref nw, .ref kp, .ref ik, .ref mr, .long 0, .long 1, .ref mw, .long 0, .int 0, .int 0, .long 0, .long 0, .ref mq, .ref mz, .ref my, .int 0, .ref mb, .int 0, .int 0, .int 0, .int 0, .int 0, .ref mx, .ref mv]))] := hD
    refine lv_aload_n hx hb dX12_lookAt_48 rfl (lv_at hl 0 rfl) ?_
    refine lv_iconst (v := 0) hx hb dX12_lookAt_49 (by decide) ?_
    refine va_put (D := (dC, dI)) (ci := 12) (v := .int 0) (ty := .int) (C := RX12) (T := TX12) (N := 24) hx hb hts iw_k_lookAt0_X12 tyX12 tyX12_ok nmX12 hown hK hP hD hS 0 rfl rfl 20 (by decide) (hts (.fieldLink RX12 270 "ThriceCountedModel" "token" "I") (by decide +kernel)) (fun _ h9 => h9) rfl (by decide +kernel) rfl rfl (Nat.le_of_ble_eq_true rfl) dX12_lookAt_50 (fun H locs hP hD hS => ?_)
    have hP : va_P (dC, dI) vwCl [(mo, .inr (12, [.ref nw, .ref kp, .ref ik, .ref mr, .long 0, .long 1, .ref mw, .long 0, .int 0, .int 0, .long 0, .long 0, .ref mq, .ref mz, .ref my, .int 0, .ref mb, .int 0, .int 0, .int 0, .int 0, .int 0, .ref mx, .ref mv]))] H := hP
    have hD : va_D A [(mo, .inr (12, [.ref nw, .ref kp, .ref ik, .ref mr, .long 0, .long 1, .ref mw, .long 0, .int 0, .int 0, .long 0, .long 0, .ref mq, .ref mz, .ref my, .int 0, .ref mb, .int 0, .int 0, .int 0, .int 0, .int 0, .ref mx, .ref mv]))] := hD
    refine lv_aload_n hx hb dX12_lookAt_53 rfl (lv_at hl 0 rfl) ?_
    refine lv_iconst (v := 0) hx hb dX12_lookAt_54 (by decide) ?_
    refine va_put (D := (dC, dI)) (ci := 12) (v := .int 0) (ty := .int) (C := RX12) (T := TX12) (N := 24) hx hb hts iw_k_lookAt0_X12 tyX12 tyX12_ok nmX12 hown hK hP hD hS 0 rfl rfl 21 (by decide) (hts (.fieldLink RX12 273 "ThriceCountedModel" "value" "I") (by decide +kernel)) (fun _ h9 => h9) rfl (by decide +kernel) rfl rfl (Nat.le_of_ble_eq_true rfl) dX12_lookAt_55 (fun H locs hP hD hS => ?_)
    have hP : va_P (dC, dI) vwCl [(mo, .inr (12, [.ref nw, .ref kp, .ref ik, .ref mr, .long 0, .long 1, .ref mw, .long 0, .int 0, .int 0, .long 0, .long 0, .ref mq, .ref mz, .ref my, .int 0, .ref mb, .int 0, .int 0, .int 0, .int 0, .int 0, .ref mx, .ref mv]))] H := hP
    have hD : va_D A [(mo, .inr (12, [.ref nw, .ref kp, .ref ik, .ref mr, .long 0, .long 1, .ref mw, .long 0, .int 0, .int 0, .long 0, .long 0, .ref mq, .ref mz, .ref my, .int 0, .ref mb, .int 0, .int 0, .int 0, .int 0, .int 0, .ref mx, .ref mv]))] := hD
    refine lv_aload_n hx hb dX12_lookAt_58 rfl (lv_at hl 0 rfl) ?_
    refine va_get (D := (dC, dI)) (ci := 12) (v := .int 0) (C := RX12) (T := TX12) (N := 24) hx hb hts iw_k_lookAt0_X12 hown hK hP 0 rfl rfl 18 (by decide) (hts (.fieldLink RX12 264 "ThriceCountedModel" "tokenAt" "I") (by decide +kernel)) (fun _ h9 => h9) rfl dX12_lookAt_59 ?_
    refine lv_aload_n hx hb dX12_lookAt_62 rfl (lv_at hl 0 rfl) ?_
    refine va_get (D := (dC, dI)) (ci := 12) (v := .int 0) (C := RX12) (T := TX12) (N := 24) hx hb hts iw_k_lookAt0_X12 hown hK hP 0 rfl rfl 17 (by decide) (hts (.fieldLink RX12 253 "ThriceCountedModel" "bytesLong" "I") (by decide +kernel)) (fun _ h9 => h9) rfl dX12_lookAt_63 ?_
    refine lv_icmp_ne (tgt := 70) hx hb dX12_lookAt_66 (by decide) (fun c_2 => ?_) (fun c_2 => ?_)
    · exact absurd c_2 (by decide)
    · have hP9 := hP.sub (ws' := [(mo, .inr (12, [.ref nw, .ref kp, .ref ik, .ref mr, .long 0, .long 1, .ref mw, .long 0, .int 0, .int 0, .long 0, .long 0, .ref mq, .ref mz, .ref my, .int 0, .ref mb, .int 0, .int 0, .int 0, .int 0, .int 0, .ref mx, .ref mv]))]) [0] rfl
      have hD9 := hD.sub (ws' := [(mo, .inr (12, [.ref nw, .ref kp, .ref ik, .ref mr, .long 0, .long 1, .ref mw, .long 0, .int 0, .int 0, .long 0, .long 0, .ref mq, .ref mz, .ref my, .int 0, .ref mb, .int 0, .int 0, .int 0, .int 0, .int 0, .ref mx, .ref mv]))]) [0] (by decide) rfl
      have hK9 := hK.sub (tys' := []) [] rfl
      exact W.vret hx hb hr (fun t ht hW => ⟨⟨(), rfl, trivial, by rw [ht]; exact hP9, va_K.moved hW.alike hK9, hD9⟩, hS.F ht⟩) hS.2.2 dX12_lookAt_69
  · exact absurd c_1 (by decide)
theorem dX12_isCalled_0 : decode cX12_isCalled 0 = .ok (.aload_n 0, 1) := by decide +kernel
theorem dX12_isCalled_1 : decode cX12_isCalled 1 = .ok (.getfield 270, 3) := by decide +kernel
theorem dX12_isCalled_4 : decode cX12_isCalled 4 = .ok (.iconst 1, 1) := by decide +kernel
theorem dX12_isCalled_5 : decode cX12_isCalled 5 = .ok (.if_icmp .ne 15, 3) := by decide +kernel
theorem dX12_isCalled_20 : decode cX12_isCalled 20 = .ok (.iconst 0, 1) := by decide +kernel
theorem dX12_isCalled_21 : decode cX12_isCalled 21 = .ok (.istore 8, 2) := by decide +kernel
theorem dX12_isCalled_23 : decode cX12_isCalled 23 = .ok (.iconst 0, 1) := by decide +kernel
theorem dX12_isCalled_24 : decode cX12_isCalled 24 = .ok (.istore 9, 2) := by decide +kernel
theorem dX12_isCalled_26 : decode cX12_isCalled 26 = .ok (.iload 9, 2) := by decide +kernel
theorem dX12_isCalled_28 : decode cX12_isCalled 28 = .ok (.iload_n 1, 1) := by decide +kernel
theorem dX12_isCalled_29 : decode cX12_isCalled 29 = .ok (.if_icmp .ge 90, 3) := by decide +kernel
theorem dX12_isCalled_32 : decode cX12_isCalled 32 = .ok (.iload 8, 2) := by decide +kernel
theorem dX12_isCalled_34 : decode cX12_isCalled 34 = .ok (.ifCond .eq 85, 3) := by decide +kernel
theorem dX12_isCalled_119 : decode cX12_isCalled 119 = .ok (.iload 8, 2) := by decide +kernel
theorem dX12_isCalled_121 : decode cX12_isCalled 121 = .ok (.ireturn, 1) := by decide +kernel
set_option maxRecDepth 20000 in
theorem iw_k_isCalled0_X12 : ∀ w ∈ wsX120, w ∈ wsX12_isCalled := by decide +kernel
set_option maxHeartbeats 4000000 in
set_option maxRecDepth 100000 in
theorem k_isCalled0 (l : Launch) (dC : Nat → ClassId) (dI : Nat → Nat → Nat) (mo : Nat) (nw : Nat) (kp : Nat) (ik : Nat) (mr : Nat) (mw : Nat) (mq : Nat) (mz : Nat) (my : Nat) (mb : Nat) (mx : Nat) (mv : Nat) : Met l yX12_isCalled wsX12_isCalled ({ frames := 0, cells := 0, slots := 0, locals := 0 }) (va_Pc [.ref mo, .int 4, .int 98, .int 97, .int 110, .int 107, .int 0, .int 0] (fun U => va_P (dC, dI) vwCl [(mo, .inr (12, [.ref nw, .ref kp, .ref ik, .ref mr, .long 0, .long 1, .ref mw, .long 0, .int 0, .int 0, .long 0, .long 0, .ref mq, .ref mz, .ref my, .int 0, .ref mb, .int 0, .int 0, .int 0, .int 0, .int 0, .ref mx, .ref mv]))] U.heap ∧ va_K (dC, dI) vwCl [] U)) (vp_Si (fun r => r = 0)) 0 0 (fun _ => False) := by
  refine Met.ofW (cc := cX12_isCalled) (maxL := 10) (ret := (some .boolean)) (by decide) rfl ?_
  intro p e s m args below meth c s₁ B hml hv
  obtain ⟨rfl, hP, hK⟩ := hv
  have hx := B.exec
  have hb := B.bytes
  have hr := B.returns
  have hts := atoms_spec (ws := wsX12_isCalled) B.pre
  have hown : s.vm.findClass RX12 = some m.cls := findClass_of_methodNamed B.named
  have hlocks := B.notSynchronized
  have hl := lv_entry ([.ref mo, .int 4, .int 98, .int 97, .int 110, .int 107, .int 0, .int 0]) (n := 10) (Nat.le_of_ble_eq_true rfl)
  rw [lg_entry_eq]
  generalize (lg_sl ([.ref mo, .int 4, .int 98, .int 97, .int 110, .int 107, .int 0, .int 0]) ++ List.replicate (10 - (lg_sl ([.ref mo, .int 4, .int 98, .int 97, .int 110, .int 107, .int 0, .int 0])).length) Slot.unset).toArray = ls at hl ⊢
  have hl : lv_has ls 10 [(0, .ref mo), (1, .int 4), (2, .int 98), (3, .int 97), (4, .int 110), (5, .int 107), (6, .int 0), (7, .int 0)] := hl
  refine lv_aload_n hx hb dX12_isCalled_0 rfl (lv_at hl 0 rfl) ?_
  refine va_get (D := (dC, dI)) (ci := 12) (v := .int 0) (C := RX12) (T := TX12) (N := 24) hx hb hts iw_k_isCalled0_X12 hown hK hP 0 rfl rfl 20 (by decide) (hts (.fieldLink RX12 270 "ThriceCountedModel" "token" "I") (by decide +kernel)) (fun _ h9 => h9) rfl dX12_isCalled_1 ?_
  refine lv_iconst (v := 1) hx hb dX12_isCalled_4 (by decide) ?_
  refine lv_icmp_ne (tgt := 20) hx hb dX12_isCalled_5 (by decide) (fun c_1 => ?_) (fun c_1 => ?_)
  · refine lv_iconst (v := 0) hx hb dX12_isCalled_20 (by decide) ?_
    refine lv_istore (lv' := [(8, .int 0), (0, .ref mo), (1, .int 4), (2, .int 98), (3, .int 97), (4, .int 110), (5, .int 107), (6, .int 0), (7, .int 0)]) hx hb dX12_isCalled_21 hl (by decide) rfl (fun ls hl => ?_)
    refine lv_iconst (v := 0) hx hb dX12_isCalled_23 (by decide) ?_
    refine lv_istore (lv' := [(9, .int 0), (8, .int 0), (0, .ref mo), (1, .int 4), (2, .int 98), (3, .int 97), (4, .int 110), (5, .int 107), (6, .int 0), (7, .int 0)]) hx hb dX12_isCalled_24 hl (by decide) rfl (fun ls hl => ?_)
    refine lv_iload hx hb dX12_isCalled_26 (lv_at hl 0 rfl) ?_
    refine lv_iload_n hx hb dX12_isCalled_28 rfl (lv_at hl 3 rfl) ?_
    refine lv_icmp_ge (tgt := 119) hx hb dX12_isCalled_29 (by decide) (fun c_2 => ?_) (fun c_2 => ?_)
    · exact absurd c_2 (by decide)
    · refine lv_iload hx hb dX12_isCalled_32 (lv_at hl 1 rfl) ?_
      refine lv_if_eq (tgt := 119) hx hb dX12_isCalled_34 (by decide) (fun c_3 => ?_) (fun c_3 => ?_)
      · refine lv_iload hx hb dX12_isCalled_119 (lv_at hl 1 rfl) ?_
        exact W.zret (v := 0) hx hb hr (by decide) (fun t ht hW => ⟨0, rfl, rfl, ht⟩) (fun _ h => absurd h List.not_mem_nil) dX12_isCalled_121
      · exact absurd c_3 (by decide)
  · exact absurd c_1 (by decide)
set_option maxRecDepth 20000 in
theorem ggX12_readsFirst_X12_isCalled : GoodIn wsX12_readsFirst wsX12_isCalled := goodIn_r _ [7, 2, 8, 9, 10, 37, 38, 39, 40, 41, 42, 43, 44, 45, 46, 47, 48, 49, 50, 51, 52, 53, 54, 55, 56, 57, 58, 59, 60] (by decide +kernel) (by decide +kernel)
set_option maxRecDepth 20000 in
theorem gX12_readsFirst_X12_isCalled : GoodIn wsX12_readsFirst (wsV RX12 288 RX12 yX12_isCalled wsX12_isCalled) := goodIn_app (goodIn_of _ (by decide +kernel)) ggX12_readsFirst_X12_isCalled
theorem dX12_readsFirst_0 : decode cX12_readsFirst 0 = .ok (.aload_n 0, 1) := by decide +kernel
theorem dX12_readsFirst_1 : decode cX12_readsFirst 1 = .ok (.iconst 4, 1) := by decide +kernel
theorem dX12_readsFirst_2 : decode cX12_readsFirst 2 = .ok (.bipush 98, 2) := by decide +kernel
theorem dX12_readsFirst_4 : decode cX12_readsFirst 4 = .ok (.bipush 97, 2) := by decide +kernel
theorem dX12_readsFirst_6 : decode cX12_readsFirst 6 = .ok (.bipush 110, 2) := by decide +kernel
theorem dX12_readsFirst_8 : decode cX12_readsFirst 8 = .ok (.bipush 107, 2) := by decide +kernel
theorem dX12_readsFirst_10 : decode cX12_readsFirst 10 = .ok (.iconst 0, 1) := by decide +kernel
theorem dX12_readsFirst_11 : decode cX12_readsFirst 11 = .ok (.iconst 0, 1) := by decide +kernel
theorem dX12_readsFirst_12 : decode cX12_readsFirst 12 = .ok (.invokevirtual 288, 3) := by decide +kernel
theorem dX12_readsFirst_15 : decode cX12_readsFirst 15 = .ok (.ifCond .ne 5, 3) := by decide +kernel
theorem dX12_readsFirst_18 : decode cX12_readsFirst 18 = .ok (.iconst 0, 1) := by decide +kernel
theorem dX12_readsFirst_19 : decode cX12_readsFirst 19 = .ok (.ireturn, 1) := by decide +kernel
set_option maxHeartbeats 4000000 in
set_option maxRecDepth 100000 in
theorem k_readsFirst0 (l : Launch) (dC : Nat → ClassId) (dI : Nat → Nat → Nat) (mo : Nat) (nw : Nat) (kp : Nat) (ik : Nat) (mr : Nat) (mw : Nat) (mq : Nat) (mz : Nat) (my : Nat) (mb : Nat) (mx : Nat) (mv : Nat) : Met l yX12_readsFirst wsX12_readsFirst ({ frames := 1, cells := 0, slots := 0, locals := 29 }) (va_Pc [.ref mo] (fun U => va_P (dC, dI) vwCl [(mo, .inr (12, [.ref nw, .ref kp, .ref ik, .ref mr, .long 0, .long 1, .ref mw, .long 0, .int 0, .int 0, .long 0, .long 0, .ref mq, .ref mz, .ref my, .int 0, .ref mb, .int 0, .int 0, .int 0, .int 0, .int 0, .ref mx, .ref mv]))] U.heap ∧ va_K (dC, dI) vwCl [] U)) (vp_Si (fun r => r = 0)) 0 0 (fun _ => False) := by
  refine Met.ofW (cc := cX12_readsFirst) (maxL := 1) (ret := (some .boolean)) (by decide) rfl ?_
  intro p e s m args below meth c s₁ B hml hv
  obtain ⟨rfl, hP, hK⟩ := hv
  have hx := B.exec
  have hb := B.bytes
  have hr := B.returns
  have hts := atoms_spec (ws := wsX12_readsFirst) B.pre
  have hown : s.vm.findClass RX12 = some m.cls := findClass_of_methodNamed B.named
  have hlocks := B.notSynchronized
  have hl := lv_entry ([.ref mo]) (n := 1) (Nat.le_of_ble_eq_true rfl)
  rw [lg_entry_eq]
  generalize (lg_sl ([.ref mo]) ++ List.replicate (1 - (lg_sl ([.ref mo])).length) Slot.unset).toArray = ls at hl ⊢
  have hl : lv_has ls 1 [(0, .ref mo)] := hl
  refine lv_aload_n hx hb dX12_readsFirst_0 rfl (lv_at hl 0 rfl) ?_
  refine lv_iconst (v := 4) hx hb dX12_readsFirst_1 (by decide) ?_
  refine lv_bipush (v := 98) hx hb dX12_readsFirst_2 (by decide) ?_
  refine lv_bipush (v := 97) hx hb dX12_readsFirst_4 (by decide) ?_
  refine lv_bipush (v := 110) hx hb dX12_readsFirst_6 (by decide) ?_
  refine lv_bipush (v := 107) hx hb dX12_readsFirst_8 (by decide) ?_
  refine lv_iconst (v := 0) hx hb dX12_readsFirst_10 (by decide) ?_
  refine lv_iconst (v := 0) hx hb dX12_readsFirst_11 (by decide) ?_
  have hPc_1 := hP.sub (ws' := [(mo, .inr (12, [.ref nw, .ref kp, .ref ik, .ref mr, .long 0, .long 1, .ref mw, .long 0, .int 0, .int 0, .long 0, .long 0, .ref mq, .ref mz, .ref my, .int 0, .ref mb, .int 0, .int 0, .int 0, .int 0, .int 0, .ref mx, .ref mv]))]) [0] rfl
  have hKc_2 := hK.sub (tys' := []) [] rfl
  refine vp_callSi (va_Run.run (va_runV (As := [.int 4, .int 98, .int 97, .int 110, .int 107, .int 0, .int 0]) (rest := []) ⟨hx, hb, hml, hown, hts⟩ (k_isCalled0 l dC dI mo nw kp ik mr mw mq mz my mb mx mv) (cwV 7 hts gX12_readsFirst_X12_isCalled rfl rfl rfl (by decide +kernel) ⟨Nat.le_of_ble_eq_true rfl, Nat.le_of_ble_eq_true rfl⟩) ⟨fun a U g mk q => by obtain ⟨q0, qP, qK⟩ := q; exact ⟨q0, qP, va_K.moved (u := U) (U := U.calling g mk a) (Vm.Alike.refl U.vm) qK⟩, va_recv hK hP (ci := 12) (q0 := 0) rfl rfl, fun U hU hW => ⟨rfl, by rw [hU]; exact hPc_1, va_K.moved hW.alike hKc_2⟩⟩ rfl rfl hl.1 rfl (lv_room (Nat.le_of_ble_eq_true rfl)) dX12_readsFirst_12 ⟨Nat.le_of_ble_eq_true rfl, Nat.le_of_ble_eq_true rfl⟩)) (fun r_3 hw_4 => ?_)
  obtain rfl : 0 = r_3 := hw_4.symm
  refine lv_if_ne (tgt := 20) hx hb dX12_readsFirst_15 (by decide) (fun c_5 => ?_) (fun c_5 => ?_)
  · exact absurd c_5 (by decide)
  · refine lv_iconst (v := 0) hx hb dX12_readsFirst_18 (by decide) ?_
    exact W.zret (v := 0) hx hb hr (by decide) (fun t ht hW => ⟨0, rfl, rfl, ht⟩) (fun _ h => absurd h List.not_mem_nil) dX12_readsFirst_19
theorem dX12_counted_0 : decode cX12_counted 0 = .ok (.iload_n 1, 1) := by decide +kernel
theorem dX12_counted_1 : decode cX12_counted 1 = .ok (.iconst 5, 1) := by decide +kernel
theorem dX12_counted_2 : decode cX12_counted 2 = .ok (.if_icmp .ge 12, 3) := by decide +kernel
theorem dX12_counted_5 : decode cX12_counted 5 = .ok (.aload_n 0, 1) := by decide +kernel
theorem dX12_counted_6 : decode cX12_counted 6 = .ok (.getfield 7, 3) := by decide +kernel
theorem dX12_counted_9 : decode cX12_counted 9 = .ok (.iload_n 1, 1) := by decide +kernel
theorem dX12_counted_10 : decode cX12_counted 10 = .ok (.iaload, 1) := by decide +kernel
theorem dX12_counted_11 : decode cX12_counted 11 = .ok (.goto 7, 3) := by decide +kernel
theorem dX12_counted_18 : decode cX12_counted 18 = .ok (.ireturn, 1) := by decide +kernel
theorem dX12_counted_14 : decode cX12_counted 14 = .ok (.aload_n 0, 1) := by decide +kernel
theorem dX12_counted_15 : decode cX12_counted 15 = .ok (.getfield 253, 3) := by decide +kernel
set_option maxRecDepth 20000 in
theorem iw_k_counted_X12 : ∀ w ∈ wsX120, w ∈ wsX12_counted := by decide +kernel
set_option maxHeartbeats 4000000 in
set_option maxRecDepth 100000 in
theorem k_counted (l : Launch) (dC : Nat → ClassId) (dI : Nat → Nat → Nat) (mo : Nat) (nw : Nat) (kp : Nat) (ik : Nat) (mr : Nat) (mw : Nat) (mq : Nat) (mz : Nat) (my : Nat) (mb : Nat) (mx : Nat) (mv : Nat) (cn : ClassId) (na : Int32) (hna : 0 ≤ na ∧ na ≤ 5) : Met l yX12_counted wsX12_counted ({ frames := 0, cells := 0, slots := 0, locals := 0 }) (va_Pc [.ref mo, .int na] (fun U => va_P (dC, dI) vwCl [(mo, .inr (12, [.ref nw, .ref kp, .ref ik, .ref mr, .long 0, .long 1, .ref mw, .long 0, .int 0, .int 0, .long 0, .long 0, .ref mq, .ref mz, .ref my, .int 0, .ref mb, .int 0, .int 0, .int 0, .int 0, .int 0, .ref mx, .ref mv])), (nw, .inl (cn, 350, .inl (fun _ => 0)))] U.heap ∧ va_K (dC, dI) vwCl [(cn, .int)] U)) (vp_Si (fun r => r = 0)) 0 0 (fun _ => False) := by
  refine Met.ofW (cc := cX12_counted) (maxL := 2) (ret := (some .int)) (by decide) rfl ?_
  intro p e s m args below meth c s₁ B hml hv
  obtain ⟨rfl, hP, hK⟩ := hv
  have hx := B.exec
  have hb := B.bytes
  have hr := B.returns
  have hts := atoms_spec (ws := wsX12_counted) B.pre
  have hown : s.vm.findClass RX12 = some m.cls := findClass_of_methodNamed B.named
  have hlocks := B.notSynchronized
  have hl := lv_entry ([.ref mo, .int na]) (n := 2) (Nat.le_of_ble_eq_true rfl)
  rw [lg_entry_eq]
  generalize (lg_sl ([.ref mo, .int na]) ++ List.replicate (2 - (lg_sl ([.ref mo, .int na])).length) Slot.unset).toArray = ls at hl ⊢
  have hl : lv_has ls 2 [(0, .ref mo), (1, .int na)] := hl
  rcases (tz_six hna) with rfl | rfl | rfl | rfl | rfl | rfl
  · refine lv_iload_n hx hb dX12_counted_0 rfl (lv_at hl 1 rfl) ?_
    refine lv_iconst (v := 5) hx hb dX12_counted_1 (by decide) ?_
    refine lv_icmp_ge (tgt := 14) hx hb dX12_counted_2 (by decide) (fun c_1 => ?_) (fun c_1 => ?_)
    · exact absurd c_1 (by decide)
    · refine lv_aload_n hx hb dX12_counted_5 rfl (lv_at hl 0 rfl) ?_
      refine va_get (D := (dC, dI)) (ci := 12) (v := .ref nw) (C := RX12) (T := TX12) (N := 24) hx hb hts iw_k_counted_X12 hown hK hP 0 rfl rfl 0 (by decide) (hts (.fieldLink RX12 7 "ThriceCountedModel" "now" "[I") (by decide +kernel)) (fun _ h9 => h9) rfl dX12_counted_6 ?_
      refine lv_iload_n hx hb dX12_counted_9 rfl (lv_at hl 1 rfl) ?_
      refine va_iald hx hb hK hP 1 0 rfl rfl (show ¬ ((0 : Int32) < 0 ∨ 350 ≤ (0 : Int32).toNatClampNeg) by decide) dX12_counted_10 ?_
      refine tz_i 0 rfl ?_
      refine lv_goto (tgt := 18) hx hb dX12_counted_11 (by decide) ?_
      exact W.iret (v := 0) hx hb hr (fun t ht hW => ⟨0, rfl, rfl, ht⟩) (fun _ h => absurd h List.not_mem_nil) dX12_counted_18
  · refine lv_iload_n hx hb dX12_counted_0 rfl (lv_at hl 1 rfl) ?_
    refine lv_iconst (v := 5) hx hb dX12_counted_1 (by decide) ?_
    refine lv_icmp_ge (tgt := 14) hx hb dX12_counted_2 (by decide) (fun c_2 => ?_) (fun c_2 => ?_)
    · exact absurd c_2 (by decide)
    · refine lv_aload_n hx hb dX12_counted_5 rfl (lv_at hl 0 rfl) ?_
      refine va_get (D := (dC, dI)) (ci := 12) (v := .ref nw) (C := RX12) (T := TX12) (N := 24) hx hb hts iw_k_counted_X12 hown hK hP 0 rfl rfl 0 (by decide) (hts (.fieldLink RX12 7 "ThriceCountedModel" "now" "[I") (by decide +kernel)) (fun _ h9 => h9) rfl dX12_counted_6 ?_
      refine lv_iload_n hx hb dX12_counted_9 rfl (lv_at hl 1 rfl) ?_
      refine va_iald hx hb hK hP 1 0 rfl rfl (show ¬ ((1 : Int32) < 0 ∨ 350 ≤ (1 : Int32).toNatClampNeg) by decide) dX12_counted_10 ?_
      refine tz_i 0 rfl ?_
      refine lv_goto (tgt := 18) hx hb dX12_counted_11 (by decide) ?_
      exact W.iret (v := 0) hx hb hr (fun t ht hW => ⟨0, rfl, rfl, ht⟩) (fun _ h => absurd h List.not_mem_nil) dX12_counted_18
  · refine lv_iload_n hx hb dX12_counted_0 rfl (lv_at hl 1 rfl) ?_
    refine lv_iconst (v := 5) hx hb dX12_counted_1 (by decide) ?_
    refine lv_icmp_ge (tgt := 14) hx hb dX12_counted_2 (by decide) (fun c_3 => ?_) (fun c_3 => ?_)
    · exact absurd c_3 (by decide)
    · refine lv_aload_n hx hb dX12_counted_5 rfl (lv_at hl 0 rfl) ?_
      refine va_get (D := (dC, dI)) (ci := 12) (v := .ref nw) (C := RX12) (T := TX12) (N := 24) hx hb hts iw_k_counted_X12 hown hK hP 0 rfl rfl 0 (by decide) (hts (.fieldLink RX12 7 "ThriceCountedModel" "now" "[I") (by decide +kernel)) (fun _ h9 => h9) rfl dX12_counted_6 ?_
      refine lv_iload_n hx hb dX12_counted_9 rfl (lv_at hl 1 rfl) ?_
      refine va_iald hx hb hK hP 1 0 rfl rfl (show ¬ ((2 : Int32) < 0 ∨ 350 ≤ (2 : Int32).toNatClampNeg) by decide) dX12_counted_10 ?_
      refine tz_i 0 rfl ?_
      refine lv_goto (tgt := 18) hx hb dX12_counted_11 (by decide) ?_
      exact W.iret (v := 0) hx hb hr (fun t ht hW => ⟨0, rfl, rfl, ht⟩) (fun _ h => absurd h List.not_mem_nil) dX12_counted_18
  · refine lv_iload_n hx hb dX12_counted_0 rfl (lv_at hl 1 rfl) ?_
    refine lv_iconst (v := 5) hx hb dX12_counted_1 (by decide) ?_
    refine lv_icmp_ge (tgt := 14) hx hb dX12_counted_2 (by decide) (fun c_4 => ?_) (fun c_4 => ?_)
    · exact absurd c_4 (by decide)
    · refine lv_aload_n hx hb dX12_counted_5 rfl (lv_at hl 0 rfl) ?_
      refine va_get (D := (dC, dI)) (ci := 12) (v := .ref nw) (C := RX12) (T := TX12) (N := 24) hx hb hts iw_k_counted_X12 hown hK hP 0 rfl rfl 0 (by decide) (hts (.fieldLink RX12 7 "ThriceCountedModel" "now" "[I") (by decide +kernel)) (fun _ h9 => h9) rfl dX12_counted_6 ?_
      refine lv_iload_n hx hb dX12_counted_9 rfl (lv_at hl 1 rfl) ?_
      refine va_iald hx hb hK hP 1 0 rfl rfl (show ¬ ((3 : Int32) < 0 ∨ 350 ≤ (3 : Int32).toNatClampNeg) by decide) dX12_counted_10 ?_
      refine tz_i 0 rfl ?_
      refine lv_goto (tgt := 18) hx hb dX12_counted_11 (by decide) ?_
      exact W.iret (v := 0) hx hb hr (fun t ht hW => ⟨0, rfl, rfl, ht⟩) (fun _ h => absurd h List.not_mem_nil) dX12_counted_18
  · refine lv_iload_n hx hb dX12_counted_0 rfl (lv_at hl 1 rfl) ?_
    refine lv_iconst (v := 5) hx hb dX12_counted_1 (by decide) ?_
    refine lv_icmp_ge (tgt := 14) hx hb dX12_counted_2 (by decide) (fun c_5 => ?_) (fun c_5 => ?_)
    · exact absurd c_5 (by decide)
    · refine lv_aload_n hx hb dX12_counted_5 rfl (lv_at hl 0 rfl) ?_
      refine va_get (D := (dC, dI)) (ci := 12) (v := .ref nw) (C := RX12) (T := TX12) (N := 24) hx hb hts iw_k_counted_X12 hown hK hP 0 rfl rfl 0 (by decide) (hts (.fieldLink RX12 7 "ThriceCountedModel" "now" "[I") (by decide +kernel)) (fun _ h9 => h9) rfl dX12_counted_6 ?_
      refine lv_iload_n hx hb dX12_counted_9 rfl (lv_at hl 1 rfl) ?_
      refine va_iald hx hb hK hP 1 0 rfl rfl (show ¬ ((4 : Int32) < 0 ∨ 350 ≤ (4 : Int32).toNatClampNeg) by decide) dX12_counted_10 ?_
      refine tz_i 0 rfl ?_
      refine lv_goto (tgt := 18) hx hb dX12_counted_11 (by decide) ?_
      exact W.iret (v := 0) hx hb hr (fun t ht hW => ⟨0, rfl, rfl, ht⟩) (fun _ h => absurd h List.not_mem_nil) dX12_counted_18
  · refine lv_iload_n hx hb dX12_counted_0 rfl (lv_at hl 1 rfl) ?_
    refine lv_iconst (v := 5) hx hb dX12_counted_1 (by decide) ?_
    refine lv_icmp_ge (tgt := 14) hx hb dX12_counted_2 (by decide) (fun c_6 => ?_) (fun c_6 => ?_)
    · refine lv_aload_n hx hb dX12_counted_14 rfl (lv_at hl 0 rfl) ?_
      refine va_get (D := (dC, dI)) (ci := 12) (v := .int 0) (C := RX12) (T := TX12) (N := 24) hx hb hts iw_k_counted_X12 hown hK hP 0 rfl rfl 17 (by decide) (hts (.fieldLink RX12 253 "ThriceCountedModel" "bytesLong" "I") (by decide +kernel)) (fun _ h9 => h9) rfl dX12_counted_15 ?_
      exact W.iret (v := 0) hx hb hr (fun t ht hW => ⟨0, rfl, rfl, ht⟩) (fun _ h => absurd h List.not_mem_nil) dX12_counted_18
    · exact absurd c_6 (by decide)
theorem dX12_sums_0 : decode cX12_sums 0 = .ok (.lload_n 1, 1) := by decide +kernel
theorem dX12_sums_1 : decode cX12_sums 1 = .ok (.lstore 5, 2) := by decide +kernel
theorem dX12_sums_3 : decode cX12_sums 3 = .ok (.iconst 0, 1) := by decide +kernel
theorem dX12_sums_4 : decode cX12_sums 4 = .ok (.istore 7, 2) := by decide +kernel
theorem dX12_sums_6 : decode cX12_sums 6 = .ok (.iload 7, 2) := by decide +kernel
theorem dX12_sums_8 : decode cX12_sums 8 = .ok (.iload 4, 2) := by decide +kernel
theorem dX12_sums_10 : decode cX12_sums 10 = .ok (.if_icmp .ge 28, 3) := by decide +kernel
theorem dX12_sums_38 : decode cX12_sums 38 = .ok (.lload 5, 2) := by decide +kernel
theorem dX12_sums_40 : decode cX12_sums 40 = .ok (.lreturn, 1) := by decide +kernel
set_option maxHeartbeats 4000000 in
set_option maxRecDepth 100000 in
theorem k_sums0 (l : Launch) (dC : Nat → ClassId) (dI : Nat → Nat → Nat) (mo : Nat) (nw : Nat) (kp : Nat) (ik : Nat) (mr : Nat) (mw : Nat) (mq : Nat) (mz : Nat) (my : Nat) (mb : Nat) (mx : Nat) (mv : Nat) (cn : ClassId) (hh : Int64) (na : Int32) : Met l yX12_sums wsX12_sums ({ frames := 0, cells := 0, slots := 0, locals := 0 }) (va_Pc [.ref mo, .long hh, .int na, .int 0] (fun U => va_P (dC, dI) vwCl [(mo, .inr (12, [.ref nw, .ref kp, .ref ik, .ref mr, .long 0, .long 1, .ref mw, .long 0, .int 0, .int 0, .long 0, .long 0, .ref mq, .ref mz, .ref my, .int 0, .ref mb, .int 0, .int 0, .int 0, .int 0, .int 0, .ref mx, .ref mv])), (nw, .inl (cn, 350, .inl (fun _ => 0)))] U.heap ∧ va_K (dC, dI) vwCl [(cn, .int)] U)) (vp_Sl (fun r => r = hh)) 0 0 (fun _ => False) := by
  refine Met.ofW (cc := cX12_sums) (maxL := 8) (ret := (some .long)) (by decide) rfl ?_
  intro p e s m args below meth c s₁ B hml hv
  obtain ⟨rfl, hP, hK⟩ := hv
  have hx := B.exec
  have hb := B.bytes
  have hr := B.returns
  have hts := atoms_spec (ws := wsX12_sums) B.pre
  have hown : s.vm.findClass RX12 = some m.cls := findClass_of_methodNamed B.named
  have hlocks := B.notSynchronized
  have hl := lv_entry ([.ref mo, .long hh, .int na, .int 0]) (n := 8) (Nat.le_of_ble_eq_true rfl)
  rw [lg_entry_eq]
  generalize (lg_sl ([.ref mo, .long hh, .int na, .int 0]) ++ List.replicate (8 - (lg_sl ([.ref mo, .long hh, .int na, .int 0])).length) Slot.unset).toArray = ls at hl ⊢
  have hl : lv_has ls 8 [(0, .ref mo), (1, .long hh), (3, .int na), (4, .int 0)] := hl
  refine lv_lload_n hx hb dX12_sums_0 rfl (lv_at hl 1 rfl) ?_
  refine lv_lstore (lv' := [(5, .long hh), (0, .ref mo), (1, .long hh), (3, .int na), (4, .int 0)]) hx hb dX12_sums_1 hl (by decide) rfl (fun ls hl => ?_)
  refine lv_iconst (v := 0) hx hb dX12_sums_3 (by decide) ?_
  refine lv_istore (lv' := [(7, .int 0), (5, .long hh), (0, .ref mo), (1, .long hh), (3, .int na), (4, .int 0)]) hx hb dX12_sums_4 hl (by decide) rfl (fun ls hl => ?_)
  refine lv_iload hx hb dX12_sums_6 (lv_at hl 0 rfl) ?_
  refine lv_iload hx hb dX12_sums_8 (lv_at hl 5 rfl) ?_
  refine lv_icmp_ge (tgt := 38) hx hb dX12_sums_10 (by decide) (fun c_1 => ?_) (fun c_1 => ?_)
  · refine lv_lload hx hb dX12_sums_38 (lv_at hl 1 rfl) ?_
    exact W.lret (v := hh) hx hb hr (fun t ht hW => ⟨hh, rfl, rfl, ht⟩) (fun _ h => absurd h List.not_mem_nil) dX12_sums_40
  · exact absurd c_1 (by decide)
