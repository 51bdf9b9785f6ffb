set_option maxRecDepth 20000 in
theorem ggX12_bank_X12_begin : GoodIn wsX12_bank wsX12_begin := goodIn_r _ [5] (by decide +kernel) (by decide +kernel)
set_option maxRecDepth 20000 in
theorem gX12_bank_X12_begin : GoodIn wsX12_bank (va_wsS RX12 55 yX12_begin wsX12_begin) := goodIn_app (goodIn_of _ (by decide +kernel)) ggX12_bank_X12_begin
theorem dX12_bank_0 : decode cX12_bank 0 = .ok (.aload_n 0, 1) := by decide +kernel
theorem dX12_bank_1 : decode cX12_bank 1 = .ok (.getfield 7, 3) := by decide +kernel
theorem dX12_bank_4 : decode cX12_bank 4 = .ok (.iconst 1, 1) := by decide +kernel
theorem dX12_bank_5 : decode cX12_bank 5 = .ok (.iaload, 1) := by decide +kernel
theorem dX12_bank_6 : decode cX12_bank 6 = .ok (.istore_n 1, 1) := by decide +kernel
theorem dX12_bank_7 : decode cX12_bank 7 = .ok (.aload_n 0, 1) := by decide +kernel
theorem dX12_bank_8 : decode cX12_bank 8 = .ok (.getfield 7, 3) := by decide +kernel
theorem dX12_bank_11 : decode cX12_bank 11 = .ok (.invokestatic 55, 3) := by decide +kernel
theorem dX12_bank_14 : decode cX12_bank 14 = .ok (.iload_n 1, 1) := by decide +kernel
theorem dX12_bank_15 : decode cX12_bank 15 = .ok (.ireturn, 1) := by decide +kernel
set_option maxRecDepth 20000 in
theorem iw_k_m_bank_X12 : ∀ w ∈ wsX120, w ∈ wsX12_bank := by decide +kernel
set_option maxHeartbeats 4000000 in
set_option maxRecDepth 100000 in
theorem k_m_bank (l : Launch) (dC : Nat → ClassId) (dI : Nat → Nat → Nat) (mo : Nat) (nw : Nat) (kp : Nat) (ik : Nat) (mr : Nat) (mw : Nat) (mq : Nat) (mz : Nat) (my : Nat) (mb : Nat) (mx : Nat) (mv : Nat) (cn : ClassId) (sz : Nat) : Met l yX12_bank wsX12_bank ({ frames := 1, cells := 0, slots := 0, locals := 21 }) (va_Pc [.ref mo] (fun U => U.heap.size = sz ∧ va_P (dC, dI) vwCl [(mo, .inr (12, [.ref nw, .ref kp, .ref ik, .ref mr, .long 0, .long 1, .ref mw, .long 0, .int 0, .int 0, .long 0, .long 0, .ref mq, .ref mz, .ref my, .int 0, .ref mb, .int 0, .int 0, .int 0, .int 0, .int 0, .ref mx, .ref mv])), (nw, .inl (cn, 350, .inl (fun _ => 0)))] U.heap ∧ va_K (dC, dI) vwCl [(cn, .int)] U ∧ va_D (fun _ => True) [(mo, .inr (12, [.ref nw, .ref kp, .ref ik, .ref mr, .long 0, .long 1, .ref mw, .long 0, .int 0, .int 0, .long 0, .long 0, .ref mq, .ref mz, .ref my, .int 0, .ref mb, .int 0, .int 0, .int 0, .int 0, .int 0, .ref mx, .ref mv])), (nw, .inl (cn, 350, .inl (fun _ => 0)))])) (va_Qi (fun (r : Int32) (_ : Unit) => r = 0) (fun _ _ => True) (va_A [(mo, .inr (12, [.ref nw, .ref kp, .ref ik, .ref mr, .long 0, .long 1, .ref mw, .long 0, .int 0, .int 0, .long 0, .long 0, .ref mq, .ref mz, .ref my, .int 0, .ref mb, .int 0, .int 0, .int 0, .int 0, .int 0, .ref mx, .ref mv])), (nw, .inl (cn, 350, .inl (fun _ => 0)))] sz)) 0 0 (va_A [(mo, .inr (12, [.ref nw, .ref kp, .ref ik, .ref mr, .long 0, .long 1, .ref mw, .long 0, .int 0, .int 0, .long 0, .long 0, .ref mq, .ref mz, .ref my, .int 0, .ref mb, .int 0, .int 0, .int 0, .int 0, .int 0, .ref mx, .ref mv])), (nw, .inl (cn, 350, .inl (fun _ => 0)))] sz) := by
  refine Met.ofW (cc := cX12_bank) (maxL := 2) (ret := (some .int)) (by decide) rfl ?_
  intro p e s m args below meth c s₁ B hml hv
  obtain ⟨rfl, hsz, hP, hK, hD0⟩ := hv
  have hx := B.exec
  have hb := B.bytes
  have hr := B.returns
  have hts := atoms_spec (ws := wsX12_bank) B.pre
  have hown : s.vm.findClass RX12 = some m.cls := findClass_of_methodNamed B.named
  have hlocks := B.notSynchronized
  subst hsz
  have hD := hD0.self (sz := s.heap.size)
  generalize hAe : va_A [(mo, .inr (12, [.ref nw, .ref kp, .ref ik, .ref mr, .long 0, .long 1, .ref mw, .long 0, .int 0, .int 0, .long 0, .long 0, .ref mq, .ref mz, .ref my, .int 0, .ref mb, .int 0, .int 0, .int 0, .int 0, .int 0, .ref mx, .ref mv])), (nw, .inl (cn, 350, .inl (fun _ => 0)))] s.heap.size = A at hD ⊢
  have hA : ∀ q : Nat, s.heap.size ≤ q → A q := fun q h => by rw [← hAe]; exact Or.inr h
  have hS : va_S A s.heap s.heap [] := va_S.rf
  have hP : va_P (dC, dI) vwCl [(mo, .inr (12, [.ref nw, .ref kp, .ref ik, .ref mr, .long 0, .long 1, .ref mw, .long 0, .int 0, .int 0, .long 0, .long 0, .ref mq, .ref mz, .ref my, .int 0, .ref mb, .int 0, .int 0, .int 0, .int 0, .int 0, .ref mx, .ref mv])), (nw, .inl (cn, 350, .inl (fun _ => 0)))] s.heap := hP
  have hl := lv_entry ([.ref mo]) (n := 2) (Nat.le_of_ble_eq_true rfl)
  rw [lg_entry_eq]
  generalize (lg_sl ([.ref mo]) ++ List.replicate (2 - (lg_sl ([.ref mo])).length) Slot.unset).toArray = ls at hl ⊢
  have hl : lv_has ls 2 [(0, .ref mo)] := hl
  refine lv_aload_n hx hb dX12_bank_0 rfl (lv_at hl 0 rfl) ?_
  refine va_get (D := (dC, dI)) (ci := 12) (v := .ref nw) (C := RX12) (T := TX12) (N := 24) hx hb hts iw_k_m_bank_X12 hown hK hP 0 rfl rfl 0 (by decide) (hts (.fieldLink RX12 7 "ThriceCountedModel" "now" "[I") (by decide +kernel)) (fun _ h9 => h9) rfl dX12_bank_1 ?_
  refine lv_iconst (v := 1) hx hb dX12_bank_4 (by decide) ?_
  refine va_iald hx hb hK hP 1 0 rfl rfl (show ¬ ((1 : Int32) < 0 ∨ 350 ≤ (1 : Int32).toNatClampNeg) by decide) dX12_bank_5 ?_
  refine tz_i 0 rfl ?_
  refine lv_istore_n (lv' := [(1, .int 0), (0, .ref mo)]) hx hb dX12_bank_6 rfl hl (by decide) rfl (fun ls hl => ?_)
  refine lv_aload_n hx hb dX12_bank_7 rfl (lv_at hl 1 rfl) ?_
  refine va_get (D := (dC, dI)) (ci := 12) (v := .ref nw) (C := RX12) (T := TX12) (N := 24) hx hb hts iw_k_m_bank_X12 hown hK hP 0 rfl rfl 0 (by decide) (hts (.fieldLink RX12 7 "ThriceCountedModel" "now" "[I") (by decide +kernel)) (fun _ h9 => h9) rfl dX12_bank_8 ?_
  have hPc := hP.sub (ws' := [(nw, .inl (cn, 350, .inl (fun _ => 0)))]) [1] rfl
  have hDc := hD.sub (ws' := [(nw, .inl (cn, 350, .inl (fun _ => 0)))]) [1] (by decide) rfl
  have hKc := hK.sub (tys' := [(cn, .int)]) [0] rfl
  have hFc := va_free (wc := [(nw, .inl (cn, 350, .inl (fun _ => 0)))]) hD hS hA [1] rfl
  refine va_callv (va_runS (As := [.ref nw]) (rest := []) ⟨hx, hb, hml, hown, hts⟩ (k_begin l dC dI nw cn (fun _ => 0) s.heap.size) (va_cwS 1 hts gX12_bank_X12_begin rfl rfl rfl (by decide +kernel) ⟨Nat.le_of_ble_eq_true rfl, Nat.le_of_ble_eq_true rfl⟩) ⟨fun a U g mk q => by obtain ⟨q0, q1, qP, qK, qD⟩ := q; exact ⟨q0, q1, qP, va_K.moved (u := U) (U := U.calling g mk a) (Vm.Alike.refl U.vm) qK, qD⟩, fun U hU hW => ⟨rfl, by rw [hU], by rw [hU]; exact hPc, va_K.moved hW.alike hKc, hDc.weaken (fun _ _ _ _ => trivial)⟩⟩ rfl rfl hl.1 rfl (lv_room (Nat.le_of_ble_eq_true rfl)) dX12_bank_11 ⟨Nat.le_of_ble_eq_true rfl, Nat.le_of_ble_eq_true rfl⟩) hS (fun q _ h => hFc q h) hFc (fun u_ t H1 locs ht hvm hw_2 hB hz1 hk1 hS => ?_)
  obtain ⟨hP, hD⟩ := va_join (wr := [(mo, .inr (12, [.ref nw, .ref kp, .ref ik, .ref mr, .long 0, .long 1, .ref mw, .long 0, .int 0, .int 0, .long 0, .long 0, .ref mq, .ref mz, .ref my, .int 0, .ref mb, .int 0, .int 0, .int 0, .int 0, .int 0, .ref mx, .ref mv]))]) (w1 := []) hP hD [1] [0] rfl rfl (by decide) (by decide) hk1 hFc tz_P0 tz_D0
  generalize H1 = H at hP hS ⊢
  have hP : va_P (dC, dI) vwCl [(mo, .inr (12, [.ref nw, .ref kp, .ref ik, .ref mr, .long 0, .long 1, .ref mw, .long 0, .int 0, .int 0, .long 0, .long 0, .ref mq, .ref mz, .ref my, .int 0, .ref mb, .int 0, .int 0, .int 0, .int 0, .int 0, .ref mx, .ref mv]))] H := hP
  have hD : va_D A [(mo, .inr (12, [.ref nw, .ref kp, .ref ik, .ref mr, .long 0, .long 1, .ref mw, .long 0, .int 0, .int 0, .long 0, .long 0, .ref mq, .ref mz, .ref my, .int 0, .ref mb, .int 0, .int 0, .int 0, .int 0, .int 0, .ref mx, .ref mv]))] := hD
  refine lv_iload_n hx hb dX12_bank_14 rfl (lv_at hl 0 rfl) ?_
  exact W.iret (v := 0) hx hb hr (fun t ht hW => ⟨⟨0, (), rfl, rfl, trivial⟩, hS.F ht⟩) hS.2.2 dX12_bank_15
set_option maxRecDepth 20000 in
theorem ggX12_clerk_X12_in : GoodIn wsX12_clerk wsX12_in := goodIn_r _ [6] (by decide +kernel) (by decide +kernel)
set_option maxRecDepth 20000 in
theorem gX12_clerk_X12_in : GoodIn wsX12_clerk (va_wsS RX12 49 yX12_in wsX12_in) := goodIn_app (goodIn_of _ (by decide +kernel)) ggX12_clerk_X12_in
set_option maxRecDepth 20000 in
theorem ggX12_clerk_X12_layClerk : GoodIn wsX12_clerk wsX12_layClerk := goodIn_r _ [18] (by decide +kernel) (by decide +kernel)
set_option maxRecDepth 20000 in
theorem gX12_clerk_X12_layClerk : GoodIn wsX12_clerk (va_wsS RX12 69 yX12_layClerk wsX12_layClerk) := goodIn_app (goodIn_of _ (by decide +kernel)) ggX12_clerk_X12_layClerk
set_option maxRecDepth 20000 in
theorem ggX12_clerk_X12_bad : GoodIn wsX12_clerk wsX12_bad := goodIn_r _ [10, 11, 19, 20, 21, 22, 23, 24, 25, 26, 27, 28, 29, 30, 31, 32, 33, 34, 35, 36, 37, 38, 39, 40, 41, 42] (by decide +kernel) (by decide +kernel)
set_option maxRecDepth 20000 in
theorem gX12_clerk_X12_bad : GoodIn wsX12_clerk (wsV RX12 61 RX12 yX12_bad wsX12_bad) := goodIn_app (goodIn_of _ (by decide +kernel)) ggX12_clerk_X12_bad
theorem dX12_clerk_0 : decode cX12_clerk 0 = .ok (.iload_n 1, 1) := by decide +kernel
theorem dX12_clerk_1 : decode cX12_clerk 1 = .ok (.i2l, 1) := by decide +kernel
theorem dX12_clerk_2 : decode cX12_clerk 2 = .ok (.lconst 0, 1) := by decide +kernel
theorem dX12_clerk_3 : decode cX12_clerk 3 = .ok (.ldc2_w 59, 3) := by decide +kernel
theorem dX12_clerk_6 : decode cX12_clerk 6 = .ok (.invokestatic 49, 3) := by decide +kernel
theorem dX12_clerk_9 : decode cX12_clerk 9 = .ok (.ifCond .ne 10, 3) := by decide +kernel
theorem dX12_clerk_19 : decode cX12_clerk 19 = .ok (.aload_n 0, 1) := by decide +kernel
theorem dX12_clerk_20 : decode cX12_clerk 20 = .ok (.getfield 7, 3) := by decide +kernel
theorem dX12_clerk_23 : decode cX12_clerk 23 = .ok (.iconst 0, 1) := by decide +kernel
theorem dX12_clerk_24 : decode cX12_clerk 24 = .ok (.iaload, 1) := by decide +kernel
theorem dX12_clerk_25 : decode cX12_clerk 25 = .ok (.iconst 5, 1) := by decide +kernel
theorem dX12_clerk_26 : decode cX12_clerk 26 = .ok (.if_icmp .ne 8, 3) := by decide +kernel
theorem dX12_clerk_34 : decode cX12_clerk 34 = .ok (.aload_n 0, 1) := by decide +kernel
theorem dX12_clerk_35 : decode cX12_clerk 35 = .ok (.getfield 7, 3) := by decide +kernel
theorem dX12_clerk_38 : decode cX12_clerk 38 = .ok (.iload_n 1, 1) := by decide +kernel
theorem dX12_clerk_39 : decode cX12_clerk 39 = .ok (.invokestatic 69, 3) := by decide +kernel
theorem dX12_clerk_42 : decode cX12_clerk 42 = .ok (.aload_n 0, 1) := by decide +kernel
theorem dX12_clerk_43 : decode cX12_clerk 43 = .ok (.getfield 7, 3) := by decide +kernel
theorem dX12_clerk_46 : decode cX12_clerk 46 = .ok (.iconst 0, 1) := by decide +kernel
theorem dX12_clerk_47 : decode cX12_clerk 47 = .ok (.iaload, 1) := by decide +kernel
theorem dX12_clerk_48 : decode cX12_clerk 48 = .ok (.iconst 1, 1) := by decide +kernel
theorem dX12_clerk_49 : decode cX12_clerk 49 = .ok (.isub, 1) := by decide +kernel
theorem dX12_clerk_50 : decode cX12_clerk 50 = .ok (.ireturn, 1) := by decide +kernel
theorem dX12_clerk_12 : decode cX12_clerk 12 = .ok (.aload_n 0, 1) := by decide +kernel
theorem dX12_clerk_13 : decode cX12_clerk 13 = .ok (.bipush (-2), 2) := by decide +kernel
theorem dX12_clerk_15 : decode cX12_clerk 15 = .ok (.invokevirtual 61, 3) := by decide +kernel
theorem dX12_clerk_18 : decode cX12_clerk 18 = .ok (.ireturn, 1) := by decide +kernel
set_option maxRecDepth 20000 in
theorem iw_k_m_clerk_X12 : ∀ w ∈ wsX120, w ∈ wsX12_clerk := by decide +kernel
set_option maxHeartbeats 4000000 in
set_option maxRecDepth 100000 in
theorem k_m_clerk (l : Launch) (dC : Nat → ClassId) (dI : Nat → Nat → Nat) (mo : Nat) (nw : Nat) (kp : Nat) (ik : Nat) (mr : Nat) (mw : Nat) (mq : Nat) (mz : Nat) (my : Nat) (mb : Nat) (mx : Nat) (mv : Nat) (cn : ClassId) (cm : ClassId) (na : Int32) (sz : Nat) : Met l yX12_clerk wsX12_clerk ({ frames := 1, cells := 0, slots := 0, locals := 25 }) (va_Pc [.ref mo, .int na] (fun U => U.heap.size = sz ∧ va_P (dC, dI) vwCl [(mo, .inr (12, [.ref nw, .ref kp, .ref ik, .ref mr, .long 0, .long 1, .ref mw, .long 0, .int 0, .int 0, .long 0, .long 0, .ref mq, .ref mz, .ref my, .int 0, .ref mb, .int 0, .int 0, .int 0, .int 0, .int 0, .ref mx, .ref mv])), (nw, .inl (cn, 350, .inl (fun _ => 0))), (mr, .inl (cm, 3, .inl (fun _ => 0)))] U.heap ∧ va_K (dC, dI) vwCl [(cn, .int), (cm, .int)] U ∧ va_D (fun _ => True) [(mo, .inr (12, [.ref nw, .ref kp, .ref ik, .ref mr, .long 0, .long 1, .ref mw, .long 0, .int 0, .int 0, .long 0, .long 0, .ref mq, .ref mz, .ref my, .int 0, .ref mb, .int 0, .int 0, .int 0, .int 0, .int 0, .ref mx, .ref mv])), (nw, .inl (cn, 350, .inl (fun _ => 0))), (mr, .inl (cm, 3, .inl (fun _ => 0)))])) (va_Qi (fun (r : Int32) (_ : Unit) => r = (if 0 ≤ na ∧ na ≤ 10 then 0 else (-2))) (fun _ _ => True) (va_A [(mo, .inr (12, [.ref nw, .ref kp, .ref ik, .ref mr, .long 0, .long 1, .ref mw, .long 0, .int 0, .int 0, .long 0, .long 0, .ref mq, .ref mz, .ref my, .int 0, .ref mb, .int 0, .int 0, .int 0, .int 0, .int 0, .ref mx, .ref mv])), (nw, .inl (cn, 350, .inl (fun _ => 0))), (mr, .inl (cm, 3, .inl (fun _ => 0)))] sz)) 0 0 (va_A [(mo, .inr (12, [.ref nw, .ref kp, .ref ik, .ref mr, .long 0, .long 1, .ref mw, .long 0, .int 0, .int 0, .long 0, .long 0, .ref mq, .ref mz, .ref my, .int 0, .ref mb, .int 0, .int 0, .int 0, .int 0, .int 0, .ref mx, .ref mv])), (nw, .inl (cn, 350, .inl (fun _ => 0))), (mr, .inl (cm, 3, .inl (fun _ => 0)))] sz) := by
  refine Met.ofW (cc := cX12_clerk) (maxL := 2) (ret := (some .int)) (by decide) rfl ?_
  intro p e s m args below meth c s₁ B hml hv
  obtain ⟨rfl, hsz, hP, hK, hD0⟩ := hv
  have hx := B.exec
  have hb := B.bytes
  have hr := B.returns
  have hts := atoms_spec (ws := wsX12_clerk) B.pre
  have hown : s.vm.findClass RX12 = some m.cls := findClass_of_methodNamed B.named
  have hlocks := B.notSynchronized
  subst hsz
  have hD := hD0.self (sz := s.heap.size)
  generalize hAe : va_A [(mo, .inr (12, [.ref nw, .ref kp, .ref ik, .ref mr, .long 0, .long 1, .ref mw, .long 0, .int 0, .int 0, .long 0, .long 0, .ref mq, .ref mz, .ref my, .int 0, .ref mb, .int 0, .int 0, .int 0, .int 0, .int 0, .ref mx, .ref mv])), (nw, .inl (cn, 350, .inl (fun _ => 0))), (mr, .inl (cm, 3, .inl (fun _ => 0)))] s.heap.size = A at hD ⊢
  have hA : ∀ q : Nat, s.heap.size ≤ q → A q := fun q h => by rw [← hAe]; exact Or.inr h
  have hS : va_S A s.heap s.heap [] := va_S.rf
  have hP : va_P (dC, dI) vwCl [(mo, .inr (12, [.ref nw, .ref kp, .ref ik, .ref mr, .long 0, .long 1, .ref mw, .long 0, .int 0, .int 0, .long 0, .long 0, .ref mq, .ref mz, .ref my, .int 0, .ref mb, .int 0, .int 0, .int 0, .int 0, .int 0, .ref mx, .ref mv])), (nw, .inl (cn, 350, .inl (fun _ => 0))), (mr, .inl (cm, 3, .inl (fun _ => 0)))] s.heap := hP
  have hl := lv_entry ([.ref mo, .int na]) (n := 2) (Nat.le_of_ble_eq_true rfl)
  rw [lg_entry_eq]
  generalize (lg_sl ([.ref mo, .int na]) ++ List.replicate (2 - (lg_sl ([.ref mo, .int na])).length) Slot.unset).toArray = ls at hl ⊢
  have hl : lv_has ls 2 [(0, .ref mo), (1, .int na)] := hl
  refine lv_iload_n hx hb dX12_clerk_0 rfl (lv_at hl 1 rfl) ?_
  refine lv_i2l (v := na.toInt64) hx hb dX12_clerk_1 rfl ?_
  refine lv_lconst (v := 0) hx hb dX12_clerk_2 (by decide) ?_
  refine lv_ldc2 hx hb hown (hts (.constantLong RX12 59 (10)) (by decide +kernel)) dX12_clerk_3 ?_
  refine vp_callSi (va_Run.run (va_runS (As := [.long na.toInt64, .long 0, .long 10]) (rest := []) ⟨hx, hb, hml, hown, hts⟩ (k_in l dC dI na.toInt64 0 10) (va_cwS 3 hts gX12_clerk_X12_in rfl rfl rfl (by decide +kernel) ⟨Nat.le_of_ble_eq_true rfl, Nat.le_of_ble_eq_true rfl⟩) ⟨fun a U g mk q => ⟨q.1, trivial⟩, fun U hU hW => ⟨rfl, trivial⟩⟩ rfl rfl hl.1 rfl (lv_room (Nat.le_of_ble_eq_true rfl)) dX12_clerk_6 ⟨Nat.le_of_ble_eq_true rfl, Nat.le_of_ble_eq_true rfl⟩)) (fun r_1 hw_2 => ?_)
  by_cases hc_3 : 0 ≤ na ∧ na ≤ 10
  · obtain rfl : 1 = r_1 := (hw_2.trans (if_pos ((tz_in64 (by first | rfl | decide) rfl (by first | rfl | decide)).mpr hc_3))).symm
    refine lv_if_ne (tgt := 19) hx hb dX12_clerk_9 (by decide) (fun c_4 => ?_) (fun c_4 => ?_)
    · refine lv_aload_n hx hb dX12_clerk_19 rfl (lv_at hl 0 rfl) ?_
      refine va_get (D := (dC, dI)) (ci := 12) (v := .ref nw) (C := RX12) (T := TX12) (N := 24) hx hb hts iw_k_m_clerk_X12 hown hK hP 0 rfl rfl 0 (by decide) (hts (.fieldLink RX12 7 "ThriceCountedModel" "now" "[I") (by decide +kernel)) (fun _ h9 => h9) rfl dX12_clerk_20 ?_
      refine lv_iconst (v := 0) hx hb dX12_clerk_23 (by decide) ?_
      refine va_iald hx hb hK hP 1 0 rfl rfl (show ¬ ((0 : Int32) < 0 ∨ 350 ≤ (0 : Int32).toNatClampNeg) by decide) dX12_clerk_24 ?_
      refine tz_i 0 rfl ?_
      refine lv_iconst (v := 5) hx hb dX12_clerk_25 (by decide) ?_
      refine lv_icmp_ne (tgt := 34) hx hb dX12_clerk_26 (by decide) (fun c_5 => ?_) (fun c_5 => ?_)
      · refine lv_aload_n hx hb dX12_clerk_34 rfl (lv_at hl 0 rfl) ?_
        refine va_get (D := (dC, dI)) (ci := 12) (v := .ref nw) (C := RX12) (T := TX12) (N := 24) hx hb hts iw_k_m_clerk_X12 hown hK hP 0 rfl rfl 0 (by decide) (hts (.fieldLink RX12 7 "ThriceCountedModel" "now" "[I") (by decide +kernel)) (fun _ h9 => h9) rfl dX12_clerk_35 ?_
        refine lv_iload_n hx hb dX12_clerk_38 rfl (lv_at hl 1 rfl) ?_
        have hPc := hP.sub (ws' := [(nw, .inl (cn, 350, .inl (fun _ => 0)))]) [1] rfl
        have hDc := hD.sub (ws' := [(nw, .inl (cn, 350, .inl (fun _ => 0)))]) [1] (by decide) rfl
        have hKc := hK.sub (tys' := [(cn, .int)]) [0] rfl
        have hFc := va_free (wc := [(nw, .inl (cn, 350, .inl (fun _ => 0)))]) hD hS hA [1] rfl
        refine va_callv (va_runS (As := [.ref nw, .int na]) (rest := []) ⟨hx, hb, hml, hown, hts⟩ (k_layClerk l dC dI nw cn na s.heap.size) (va_cwS 2 hts gX12_clerk_X12_layClerk rfl rfl rfl (by decide +kernel) ⟨Nat.le_of_ble_eq_true rfl, Nat.le_of_ble_eq_true rfl⟩) ⟨fun a U g mk q => by obtain ⟨q0, q1, qP, qK, qD⟩ := q; exact ⟨q0, q1, qP, va_K.moved (u := U) (U := U.calling g mk a) (Vm.Alike.refl U.vm) qK, qD⟩, fun U hU hW => ⟨rfl, by rw [hU], by rw [hU]; exact hPc, va_K.moved hW.alike hKc, hDc.weaken (fun _ _ _ _ => trivial)⟩⟩ rfl rfl hl.1 rfl (lv_room (Nat.le_of_ble_eq_true rfl)) dX12_clerk_39 ⟨Nat.le_of_ble_eq_true rfl, Nat.le_of_ble_eq_true rfl⟩) hS (fun q _ h => hFc q h) hFc (fun u_ t H1 locs ht hvm hw_7 hB hz1 hk1 hS => ?_)
        obtain ⟨hP1, hK1, hD1⟩ := hB
        rw [ht] at hP1
        have hK1 := va_K.moved hvm.symm hK1
        obtain ⟨hP, hD⟩ := va_join (wr := [(mo, .inr (12, [.ref nw, .ref kp, .ref ik, .ref mr, .long 0, .long 1, .ref mw, .long 0, .int 0, .int 0, .long 0, .long 0, .ref mq, .ref mz, .ref my, .int 0, .ref mb, .int 0, .int 0, .int 0, .int 0, .int 0, .ref mx, .ref mv])), (mr, .inl (cm, 3, .inl (fun _ => 0)))]) (w1 := [(nw, .inl (cn, 350, .inl (upd (upd (fun _ => 0) (Int32.toNatClampNeg 5) na) (Int32.toNatClampNeg 0) 1)))]) hP hD [1] [0, 2] rfl rfl (by decide) (by decide) hk1 hFc hP1 hD1
        generalize H1 = H at hP hS ⊢
        have hP : va_P (dC, dI) vwCl [(mo, .inr (12, [.ref nw, .ref kp, .ref ik, .ref mr, .long 0, .long 1, .ref mw, .long 0, .int 0, .int 0, .long 0, .long 0, .ref mq, .ref mz, .ref my, .int 0, .ref mb, .int 0, .int 0, .int 0, .int 0, .int 0, .ref mx, .ref mv])), (mr, .inl (cm, 3, .inl (fun _ => 0))), (nw, .inl (cn, 350, .inl (upd (upd (fun _ => 0) (Int32.toNatClampNeg 5) na) (Int32.toNatClampNeg 0) 1)))] H := hP
        have hD : va_D A [(mo, .inr (12, [.ref nw, .ref kp, .ref ik, .ref mr, .long 0, .long 1, .ref mw, .long 0, .int 0, .int 0, .long 0, .long 0, .ref mq, .ref mz, .ref my, .int 0, .ref mb, .int 0, .int 0, .int 0, .int 0, .int 0, .ref mx, .ref mv])), (mr, .inl (cm, 3, .inl (fun _ => 0))), (nw, .inl (cn, 350, .inl (upd (upd (fun _ => 0) (Int32.toNatClampNeg 5) na) (Int32.toNatClampNeg 0) 1)))] := hD
        refine lv_aload_n hx hb dX12_clerk_42 rfl (lv_at hl 0 rfl) ?_
        refine va_get (D := (dC, dI)) (ci := 12) (v := .ref nw) (C := RX12) (T := TX12) (N := 24) hx hb hts iw_k_m_clerk_X12 hown hK hP 0 rfl rfl 0 (by decide) (hts (.fieldLink RX12 7 "ThriceCountedModel" "now" "[I") (by decide +kernel)) (fun _ h9 => h9) rfl dX12_clerk_43 ?_
        refine lv_iconst (v := 0) hx hb dX12_clerk_46 (by decide) ?_
        refine va_iald hx hb hK hP 2 0 rfl rfl (show ¬ ((0 : Int32) < 0 ∨ 350 ≤ (0 : Int32).toNatClampNeg) by decide) dX12_clerk_47 ?_
        refine tz_i 1 rfl ?_
        refine lv_iconst (v := 1) hx hb dX12_clerk_48 (by decide) ?_
        refine lv_isub hx hb dX12_clerk_49 ?_
        refine tz_i 0 (by decide) ?_
        exact W.iret (v := 0) hx hb hr (fun t ht hW => ⟨⟨0, (), rfl, (if_pos hc_3).symm, trivial⟩, hS.F ht⟩) hS.2.2 dX12_clerk_50
      · exact absurd c_5 (by decide)
    · exact absurd c_4 (by decide)
  · obtain rfl : 0 = r_1 := (hw_2.trans (if_neg (fun z => hc_3 ((tz_in64 (by first | rfl | decide) rfl (by first | rfl | decide)).mp z)))).symm
    refine lv_if_ne (tgt := 19) hx hb dX12_clerk_9 (by decide) (fun c_8 => ?_) (fun c_8 => ?_)
    · exact absurd c_8 (by decide)
    · refine lv_aload_n hx hb dX12_clerk_12 rfl (lv_at hl 0 rfl) ?_
      refine lv_bipush (v := (-2)) hx hb dX12_clerk_13 (by decide) ?_
      have hPc := hP.sub (ws' := [(mo, .inr (12, [.ref nw, .ref kp, .ref ik, .ref mr, .long 0, .long 1, .ref mw, .long 0, .int 0, .int 0, .long 0, .long 0, .ref mq, .ref mz, .ref my, .int 0, .ref mb, .int 0, .int 0, .int 0, .int 0, .int 0, .ref mx, .ref mv])), (mr, .inl (cm, 3, .inl (fun _ => 0)))]) [0, 2] rfl
      have hDc := hD.sub (ws' := [(mo, .inr (12, [.ref nw, .ref kp, .ref ik, .ref mr, .long 0, .long 1, .ref mw, .long 0, .int 0, .int 0, .long 0, .long 0, .ref mq, .ref mz, .ref my, .int 0, .ref mb, .int 0, .int 0, .int 0, .int 0, .int 0, .ref mx, .ref mv])), (mr, .inl (cm, 3, .inl (fun _ => 0)))]) [0, 2] (by decide) rfl
      have hKc := hK.sub (tys' := [(cm, .int)]) [1] rfl
      have hFc := va_free (wc := [(mo, .inr (12, [.ref nw, .ref kp, .ref ik, .ref mr, .long 0, .long 1, .ref mw, .long 0, .int 0, .int 0, .long 0, .long 0, .ref mq, .ref mz, .ref my, .int 0, .ref mb, .int 0, .int 0, .int 0, .int 0, .int 0, .ref mx, .ref mv])), (mr, .inl (cm, 3, .inl (fun _ => 0)))]) hD hS hA [0, 2] rfl
      refine va_calli (va_runV (As := [.int (-2)]) (rest := []) ⟨hx, hb, hml, hown, hts⟩ (k_bad l dC dI mo nw kp ik mr mw mq mz my mb mx mv cm (-2) s.heap.size) (cwV 1 hts gX12_clerk_X12_bad rfl rfl rfl (by decide +kernel) ⟨Nat.le_of_ble_eq_true rfl, Nat.le_of_ble_eq_true rfl⟩) ⟨fun a U g mk q => by obtain ⟨q0, q1, qP, qK, qD⟩ := q; exact ⟨q0, q1, qP, va_K.moved (u := U) (U := U.calling g mk a) (Vm.Alike.refl U.vm) qK, qD⟩, va_recv hK hP (ci := 12) (q0 := 0) rfl rfl, fun U hU hW => ⟨rfl, by rw [hU], by rw [hU]; exact hPc, va_K.moved hW.alike hKc, hDc.weaken (fun _ _ _ _ => trivial)⟩⟩ rfl rfl hl.1 rfl (lv_room (Nat.le_of_ble_eq_true rfl)) dX12_clerk_15 ⟨Nat.le_of_ble_eq_true rfl, Nat.le_of_ble_eq_true rfl⟩) hS (fun q _ h => hFc q h) hFc (fun r_9 u_ t H1 locs ht hvm hw_10 hB hz1 hk1 hS => ?_)
      obtain ⟨hP, hD⟩ := va_join (wr := [(nw, .inl (cn, 350, .inl (fun _ => 0)))]) (w1 := []) hP hD [0, 2] [1] rfl rfl (by decide) (by decide) hk1 hFc tz_P0 tz_D0
      generalize H1 = H at hP hS ⊢
      have hP : va_P (dC, dI) vwCl [(nw, .inl (cn, 350, .inl (fun _ => 0)))] H := hP
      have hD : va_D A [(nw, .inl (cn, 350, .inl (fun _ => 0)))] := hD
      obtain rfl : (-2) = r_9 := hw_10.symm
      exact W.iret (v := (-2)) hx hb hr (fun t ht hW => ⟨⟨(-2), (), rfl, (if_neg hc_3).symm, trivial⟩, hS.F ht⟩) hS.2.2 dX12_clerk_18
set_option maxRecDepth 20000 in
theorem ggX12_bundle_X12_in : GoodIn wsX12_bundle wsX12_in := goodIn_r _ [7] (by decide +kernel) (by decide +kernel)
set_option maxRecDepth 20000 in
theorem gX12_bundle_X12_in : GoodIn wsX12_bundle (va_wsS RX12 49 yX12_in wsX12_in) := goodIn_app (goodIn_of _ (by decide +kernel)) ggX12_bundle_X12_in
set_option maxRecDepth 20000 in
theorem ggX12_bundle_X12_layBundle : GoodIn wsX12_bundle wsX12_layBundle := goodIn_r _ [19] (by decide +kernel) (by decide +kernel)
set_option maxRecDepth 20000 in
theorem gX12_bundle_X12_layBundle : GoodIn wsX12_bundle (va_wsS RX12 77 yX12_layBundle wsX12_layBundle) := goodIn_app (goodIn_of _ (by decide +kernel)) ggX12_bundle_X12_layBundle
set_option maxRecDepth 20000 in
theorem ggX12_bundle_X12_bad : GoodIn wsX12_bundle wsX12_bad := goodIn_r _ [11, 12, 20, 21, 22, 23, 24, 25, 26, 27, 28, 29, 30, 31, 32, 33, 34, 35, 36, 37, 38, 39, 40, 41, 42, 43] (by decide +kernel) (by decide +kernel)
set_option maxRecDepth 20000 in
theorem gX12_bundle_X12_bad : GoodIn wsX12_bundle (wsV RX12 61 RX12 yX12_bad wsX12_bad) := goodIn_app (goodIn_of _ (by decide +kernel)) ggX12_bundle_X12_bad
theorem dX12_bundle_0 : decode cX12_bundle 0 = .ok (.iload_n 1, 1) := by decide +kernel
theorem dX12_bundle_1 : decode cX12_bundle 1 = .ok (.i2l, 1) := by decide +kernel
theorem dX12_bundle_2 : decode cX12_bundle 2 = .ok (.ldc2_w 73, 3) := by decide +kernel
theorem dX12_bundle_5 : decode cX12_bundle 5 = .ok (.ldc2_w 75, 3) := by decide +kernel
theorem dX12_bundle_8 : decode cX12_bundle 8 = .ok (.invokestatic 49, 3) := by decide +kernel
theorem dX12_bundle_11 : decode cX12_bundle 11 = .ok (.ifCond .eq 16, 3) := by decide +kernel
theorem dX12_bundle_14 : decode cX12_bundle 14 = .ok (.iload_n 2, 1) := by decide +kernel
theorem dX12_bundle_15 : decode cX12_bundle 15 = .ok (.i2l, 1) := by decide +kernel
theorem dX12_bundle_16 : decode cX12_bundle 16 = .ok (.iload_n 1, 1) := by decide +kernel
theorem dX12_bundle_17 : decode cX12_bundle 17 = .ok (.i2l, 1) := by decide +kernel
theorem dX12_bundle_18 : decode cX12_bundle 18 = .ok (.ldc2_w 75, 3) := by decide +kernel
theorem dX12_bundle_21 : decode cX12_bundle 21 = .ok (.invokestatic 49, 3) := by decide +kernel
theorem dX12_bundle_24 : decode cX12_bundle 24 = .ok (.ifCond .ne 10, 3) := by decide +kernel
theorem dX12_bundle_34 : decode cX12_bundle 34 = .ok (.aload_n 0, 1) := by decide +kernel
theorem dX12_bundle_35 : decode cX12_bundle 35 = .ok (.getfield 7, 3) := by decide +kernel
theorem dX12_bundle_38 : decode cX12_bundle 38 = .ok (.iconst 1, 1) := by decide +kernel
theorem dX12_bundle_39 : decode cX12_bundle 39 = .ok (.iaload, 1) := by decide +kernel
theorem dX12_bundle_40 : decode cX12_bundle 40 = .ok (.iconst 5, 1) := by decide +kernel
theorem dX12_bundle_41 : decode cX12_bundle 41 = .ok (.if_icmp .ne 8, 3) := by decide +kernel
theorem dX12_bundle_49 : decode cX12_bundle 49 = .ok (.aload_n 0, 1) := by decide +kernel
theorem dX12_bundle_50 : decode cX12_bundle 50 = .ok (.getfield 7, 3) := by decide +kernel
theorem dX12_bundle_53 : decode cX12_bundle 53 = .ok (.iload_n 1, 1) := by decide +kernel
theorem dX12_bundle_54 : decode cX12_bundle 54 = .ok (.iload_n 2, 1) := by decide +kernel
theorem dX12_bundle_55 : decode cX12_bundle 55 = .ok (.invokestatic 77, 3) := by decide +kernel
theorem dX12_bundle_58 : decode cX12_bundle 58 = .ok (.aload_n 0, 1) := by decide +kernel
theorem dX12_bundle_59 : decode cX12_bundle 59 = .ok (.getfield 7, 3) := by decide +kernel
theorem dX12_bundle_62 : decode cX12_bundle 62 = .ok (.iconst 1, 1) := by decide +kernel
theorem dX12_bundle_63 : decode cX12_bundle 63 = .ok (.iaload, 1) := by decide +kernel
theorem dX12_bundle_64 : decode cX12_bundle 64 = .ok (.iconst 1, 1) := by decide +kernel
theorem dX12_bundle_65 : decode cX12_bundle 65 = .ok (.isub, 1) := by decide +kernel
theorem dX12_bundle_66 : decode cX12_bundle 66 = .ok (.ireturn, 1) := by decide +kernel
theorem dX12_bundle_27 : decode cX12_bundle 27 = .ok (.aload_n 0, 1) := by decide +kernel
theorem dX12_bundle_28 : decode cX12_bundle 28 = .ok (.bipush (-2), 2) := by decide +kernel
theorem dX12_bundle_30 : decode cX12_bundle 30 = .ok (.invokevirtual 61, 3) := by decide +kernel
theorem dX12_bundle_33 : decode cX12_bundle 33 = .ok (.ireturn, 1) := by decide +kernel
set_option maxRecDepth 20000 in
theorem iw_k_m_bundle_X12 : ∀ w ∈ wsX120, w ∈ wsX12_bundle := by decide +kernel
set_option maxHeartbeats 4000000 in
set_option maxRecDepth 100000 in
theorem k_m_bundle (l : Launch) (dC : Nat → ClassId) (dI : Nat → Nat → Nat) (mo : Nat) (nw : Nat) (kp : Nat) (ik : Nat) (mr : Nat) (mw : Nat) (mq : Nat) (mz : Nat) (my : Nat) (mb : Nat) (mx : Nat) (mv : Nat) (cn : ClassId) (cm : ClassId) (na : Int32) (nb : Int32) (sz : Nat) : Met l yX12_bundle wsX12_bundle ({ frames := 1, cells := 0, slots := 0, locals := 25 }) (va_Pc [.ref mo, .int na, .int nb] (fun U => U.heap.size = sz ∧ va_P (dC, dI) vwCl [(mo, .inr (12, [.ref nw, .ref kp, .ref ik, .ref mr, .long 0, .long 1, .ref mw, .long 0, .int 0, .int 0, .long 0, .long 0, .ref mq, .ref mz, .ref my, .int 0, .ref mb, .int 0, .int 0, .int 0, .int 0, .int 0, .ref mx, .ref mv])), (nw, .inl (cn, 350, .inl (fun _ => 0))), (mr, .inl (cm, 3, .inl (fun _ => 0)))] U.heap ∧ va_K (dC, dI) vwCl [(cn, .int), (cm, .int)] U ∧ va_D (fun _ => True) [(mo, .inr (12, [.ref nw, .ref kp, .ref ik, .ref mr, .long 0, .long 1, .ref mw, .long 0, .int 0, .int 0, .long 0, .long 0, .ref mq, .ref mz, .ref my, .int 0, .ref mb, .int 0, .int 0, .int 0, .int 0, .int 0, .ref mx, .ref mv])), (nw, .inl (cn, 350, .inl (fun _ => 0))), (mr, .inl (cm, 3, .inl (fun _ => 0)))])) (va_Qi (fun (r : Int32) (_ : Unit) => r = (if 90 ≤ na ∧ na ≤ 110 then (if na ≤ nb ∧ nb ≤ 110 then 0 else (-2)) else (-2))) (fun _ _ => True) (va_A [(mo, .inr (12, [.ref nw, .ref kp, .ref ik, .ref mr, .long 0, .long 1, .ref mw, .long 0, .int 0, .int 0, .long 0, .long 0, .ref mq, .ref mz, .ref my, .int 0, .ref mb, .int 0, .int 0, .int 0, .int 0, .int 0, .ref mx, .ref mv])), (nw, .inl (cn, 350, .inl (fun _ => 0))), (mr, .inl (cm, 3, .inl (fun _ => 0)))] sz)) 0 0 (va_A [(mo, .inr (12, [.ref nw, .ref kp, .ref ik, .ref mr, .long 0, .long 1, .ref mw, .long 0, .int 0, .int 0, .long 0, .long 0, .ref mq, .ref mz, .ref my, .int 0, .ref mb, .int 0, .int 0, .int 0, .int 0, .int 0, .ref mx, .ref mv])), (nw, .inl (cn, 350, .inl (fun _ => 0))), (mr, .inl (cm, 3, .inl (fun _ => 0)))] sz) := by
  refine Met.ofW (cc := cX12_bundle) (maxL := 3) (ret := (some .int)) (by decide) rfl ?_
  intro p e s m args below meth c s₁ B hml hv
  obtain ⟨rfl, hsz, hP, hK, hD0⟩ := hv
  have hx := B.exec
  have hb := B.bytes
  have hr := B.returns
  have hts := atoms_spec (ws := wsX12_bundle) B.pre
  have hown : s.vm.findClass RX12 = some m.cls := findClass_of_methodNamed B.named
  have hlocks := B.notSynchronized
  subst hsz
  have hD := hD0.self (sz := s.heap.size)
  generalize hAe : va_A [(mo, .inr (12, [.ref nw, .ref kp, .ref ik, .ref mr, .long 0, .long 1, .ref mw, .long 0, .int 0, .int 0, .long 0, .long 0, .ref mq, .ref mz, .ref my, .int 0, .ref mb, .int 0, .int 0, .int 0, .int 0, .int 0, .ref mx, .ref mv])), (nw, .inl (cn, 350, .inl (fun _ => 0))), (mr, .inl (cm, 3, .inl (fun _ => 0)))] s.heap.size = A at hD ⊢
  have hA : ∀ q : Nat, s.heap.size ≤ q → A q := fun q h => by rw [← hAe]; exact Or.inr h
  have hS : va_S A s.heap s.heap [] := va_S.rf
  have hP : va_P (dC, dI) vwCl [(mo, .inr (12, [.ref nw, .ref kp, .ref ik, .ref mr, .long 0, .long 1, .ref mw, .long 0, .int 0, .int 0, .long 0, .long 0, .ref mq, .ref mz, .ref my, .int 0, .ref mb, .int 0, .int 0, .int 0, .int 0, .int 0, .ref mx, .ref mv])), (nw, .inl (cn, 350, .inl (fun _ => 0))), (mr, .inl (cm, 3, .inl (fun _ => 0)))] s.heap := hP
  have hl := lv_entry ([.ref mo, .int na, .int nb]) (n := 3) (Nat.le_of_ble_eq_true rfl)
  rw [lg_entry_eq]
  generalize (lg_sl ([.ref mo, .int na, .int nb]) ++ List.replicate (3 - (lg_sl ([.ref mo, .int na, .int nb])).length) Slot.unset).toArray = ls at hl ⊢
  have hl : lv_has ls 3 [(0, .ref mo), (1, .int na), (2, .int nb)] := hl
  refine lv_iload_n hx hb dX12_bundle_0 rfl (lv_at hl 1 rfl) ?_
  refine lv_i2l (v := na.toInt64) hx hb dX12_bundle_1 rfl ?_
  refine lv_ldc2 hx hb hown (hts (.constantLong RX12 73 (90)) (by decide +kernel)) dX12_bundle_2 ?_
  refine lv_ldc2 hx hb hown (hts (.constantLong RX12 75 (110)) (by decide +kernel)) dX12_bundle_5 ?_
  refine vp_callSi (va_Run.run (va_runS (As := [.long na.toInt64, .long 90, .long 110]) (rest := []) ⟨hx, hb, hml, hown, hts⟩ (k_in l dC dI na.toInt64 90 110) (va_cwS 3 hts gX12_bundle_X12_in rfl rfl rfl (by decide +kernel) ⟨Nat.le_of_ble_eq_true rfl, Nat.le_of_ble_eq_true rfl⟩) ⟨fun a U g mk q => ⟨q.1, trivial⟩, fun U hU hW => ⟨rfl, trivial⟩⟩ rfl rfl hl.1 rfl (lv_room (Nat.le_of_ble_eq_true rfl)) dX12_bundle_8 ⟨Nat.le_of_ble_eq_true rfl, Nat.le_of_ble_eq_true rfl⟩)) (fun r_1 hw_2 => ?_)
  by_cases hc_3 : 90 ≤ na ∧ na ≤ 110
  · obtain rfl : 1 = r_1 := (hw_2.trans (if_pos ((tz_in64 (by first | rfl | decide) rfl (by first | rfl | decide)).mpr hc_3))).symm
    refine lv_if_eq (tgt := 27) hx hb dX12_bundle_11 (by decide) (fun c_4 => ?_) (fun c_4 => ?_)
    · exact absurd c_4 (by decide)
    · refine lv_iload_n hx hb dX12_bundle_14 rfl (lv_at hl 2 rfl) ?_
      refine lv_i2l (v := nb.toInt64) hx hb dX12_bundle_15 rfl ?_
      refine lv_iload_n hx hb dX12_bundle_16 rfl (lv_at hl 1 rfl) ?_
      refine lv_i2l (v := na.toInt64) hx hb dX12_bundle_17 rfl ?_
      refine lv_ldc2 hx hb hown (hts (.constantLong RX12 75 (110)) (by decide +kernel)) dX12_bundle_18 ?_
      refine vp_callSi (va_Run.run (va_runS (As := [.long nb.toInt64, .long na.toInt64, .long 110]) (rest := []) ⟨hx, hb, hml, hown, hts⟩ (k_in l dC dI nb.toInt64 na.toInt64 110) (va_cwS 3 hts gX12_bundle_X12_in rfl rfl rfl (by decide +kernel) ⟨Nat.le_of_ble_eq_true rfl, Nat.le_of_ble_eq_true rfl⟩) ⟨fun a U g mk q => ⟨q.1, trivial⟩, fun U hU hW => ⟨rfl, trivial⟩⟩ rfl rfl hl.1 rfl (lv_room (Nat.le_of_ble_eq_true rfl)) dX12_bundle_21 ⟨Nat.le_of_ble_eq_true rfl, Nat.le_of_ble_eq_true rfl⟩)) (fun r_5 hw_6 => ?_)
      by_cases hc_7 : na ≤ nb ∧ nb ≤ 110
      · obtain rfl : 1 = r_5 := (hw_6.trans (if_pos ((tz_in64 (by first | rfl | decide) rfl (by first | rfl | decide)).mpr hc_7))).symm
        refine lv_if_ne (tgt := 34) hx hb dX12_bundle_24 (by decide) (fun c_8 => ?_) (fun c_8 => ?_)
        · refine lv_aload_n hx hb dX12_bundle_34 rfl (lv_at hl 0 rfl) ?_
          refine va_get (D := (dC, dI)) (ci := 12) (v := .ref nw) (C := RX12) (T := TX12) (N := 24) hx hb hts iw_k_m_bundle_X12 hown hK hP 0 rfl rfl 0 (by decide) (hts (.fieldLink RX12 7 "ThriceCountedModel" "now" "[I") (by decide +kernel)) (fun _ h9 => h9) rfl dX12_bundle_35 ?_
          refine lv_iconst (v := 1) hx hb dX12_bundle_38 (by decide) ?_
          refine va_iald hx hb hK hP 1 0 rfl rfl (show ¬ ((1 : Int32) < 0 ∨ 350 ≤ (1 : Int32).toNatClampNeg) by decide) dX12_bundle_39 ?_
          refine tz_i 0 rfl ?_
          refine lv_iconst (v := 5) hx hb dX12_bundle_40 (by decide) ?_
          refine lv_icmp_ne (tgt := 49) hx hb dX12_bundle_41 (by decide) (fun c_9 => ?_) (fun c_9 => ?_)
          · refine lv_aload_n hx hb dX12_bundle_49 rfl (lv_at hl 0 rfl) ?_
            refine va_get (D := (dC, dI)) (ci := 12) (v := .ref nw) (C := RX12) (T := TX12) (N := 24) hx hb hts iw_k_m_bundle_X12 hown hK hP 0 rfl rfl 0 (by decide) (hts (.fieldLink RX12 7 "ThriceCountedModel" "now" "[I") (by decide +kernel)) (fun _ h9 => h9) rfl dX12_bundle_50 ?_
            refine lv_iload_n hx hb dX12_bundle_53 rfl (lv_at hl 1 rfl) ?_
            refine lv_iload_n hx hb dX12_bundle_54 rfl (lv_at hl 2 rfl) ?_
            have hPc := hP.sub (ws' := [(nw, .inl (cn, 350, .inl (fun _ => 0)))]) [1] rfl
            have hDc := hD.sub (ws' := [(nw, .inl (cn, 350, .inl (fun _ => 0)))]) [1] (by decide) rfl
            have hKc := hK.sub (tys' := [(cn, .int)]) [0] rfl
            have hFc := va_free (wc := [(nw, .inl (cn, 350, .inl (fun _ => 0)))]) hD hS hA [1] rfl
            refine va_callv (va_runS (As := [.ref nw, .int na, .int nb]) (rest := []) ⟨hx, hb, hml, hown, hts⟩ (k_layBundle l dC dI nw cn na nb s.heap.size) (va_cwS 3 hts gX12_bundle_X12_layBundle rfl rfl rfl (by decide +kernel) ⟨Nat.le_of_ble_eq_true rfl, Nat.le_of_ble_eq_true rfl⟩) ⟨fun a U g mk q => by obtain ⟨q0, q1, qP, qK, qD⟩ := q; exact ⟨q0, q1, qP, va_K.moved (u := U) (U := U.calling g mk a) (Vm.Alike.refl U.vm) qK, qD⟩, fun U hU hW => ⟨rfl, by rw [hU], by rw [hU]; exact hPc, va_K.moved hW.alike hKc, hDc.weaken (fun _ _ _ _ => trivial)⟩⟩ rfl rfl hl.1 rfl (lv_room (Nat.le_of_ble_eq_true rfl)) dX12_bundle_55 ⟨Nat.le_of_ble_eq_true rfl, Nat.le_of_ble_eq_true rfl⟩) hS (fun q _ h => hFc q h) hFc (fun u_ t H1 locs ht hvm hw_11 hB hz1 hk1 hS => ?_)
            obtain ⟨hP1, hK1, hD1⟩ := hB
            rw [ht] at hP1
            have hK1 := va_K.moved hvm.symm hK1
            obtain ⟨hP, hD⟩ := va_join (wr := [(mo, .inr (12, [.ref nw, .ref kp, .ref ik, .ref mr, .long 0, .long 1, .ref mw, .long 0, .int 0, .int 0, .long 0, .long 0, .ref mq, .ref mz, .ref my, .int 0, .ref mb, .int 0, .int 0, .int 0, .int 0, .int 0, .ref mx, .ref mv])), (mr, .inl (cm, 3, .inl (fun _ => 0)))]) (w1 := [(nw, .inl (cn, 350, .inl (upd (upd (upd (upd (upd (fun _ => 0) (Int32.toNatClampNeg 10) na) (Int32.toNatClampNeg 11) nb) (Int32.toNatClampNeg 12) (-1)) (Int32.toNatClampNeg 13) (-1)) (Int32.toNatClampNeg 1) 1)))]) hP hD [1] [0, 2] rfl rfl (by decide) (by decide) hk1 hFc hP1 hD1
            generalize H1 = H at hP hS ⊢
            have hP : va_P (dC, dI) vwCl [(mo, .inr (12, [.ref nw, .ref kp, .ref ik, .ref mr, .long 0, .long 1, .ref mw, .long 0, .int 0, .int 0, .long 0, .long 0, .ref mq, .ref mz, .ref my, .int 0, .ref mb, .int 0, .int 0, .int 0, .int 0, .int 0, .ref mx, .ref mv])), (mr, .inl (cm, 3, .inl (fun _ => 0))), (nw, .inl (cn, 350, .inl (upd (upd (upd (upd (upd (fun _ => 0) (Int32.toNatClampNeg 10) na) (Int32.toNatClampNeg 11) nb) (Int32.toNatClampNeg 12) (-1)) (Int32.toNatClampNeg 13) (-1)) (Int32.toNatClampNeg 1) 1)))] H := hP
            have hD : va_D A [(mo, .inr (12, [.ref nw, .ref kp, .ref ik, .ref mr, .long 0, .long 1, .ref mw, .long 0, .int 0, .int 0, .long 0, .long 0, .ref mq, .ref mz, .ref my, .int 0, .ref mb, .int 0, .int 0, .int 0, .int 0, .int 0, .ref mx, .ref mv])), (mr, .inl (cm, 3, .inl (fun _ => 0))), (nw, .inl (cn, 350, .inl (upd (upd (upd (upd (upd (fun _ => 0) (Int32.toNatClampNeg 10) na) (Int32.toNatClampNeg 11) nb) (Int32.toNatClampNeg 12) (-1)) (Int32.toNatClampNeg 13) (-1)) (Int32.toNatClampNeg 1) 1)))] := hD
            refine lv_aload_n hx hb dX12_bundle_58 rfl (lv_at hl 0 rfl) ?_
            refine va_get (D := (dC, dI)) (ci := 12) (v := .ref nw) (C := RX12) (T := TX12) (N := 24) hx hb hts iw_k_m_bundle_X12 hown hK hP 0 rfl rfl 0 (by decide) (hts (.fieldLink RX12 7 "ThriceCountedModel" "now" "[I") (by decide +kernel)) (fun _ h9 => h9) rfl dX12_bundle_59 ?_
            refine lv_iconst (v := 1) hx hb dX12_bundle_62 (by decide) ?_
            refine va_iald hx hb hK hP 2 0 rfl rfl (show ¬ ((1 : Int32) < 0 ∨ 350 ≤ (1 : Int32).toNatClampNeg) by decide) dX12_bundle_63 ?_
            refine tz_i 1 rfl ?_
            refine lv_iconst (v := 1) hx hb dX12_bundle_64 (by decide) ?_
            refine lv_isub hx hb dX12_bundle_65 ?_
            refine tz_i 0 (by decide) ?_
            exact W.iret (v := 0) hx hb hr (fun t ht hW => ⟨⟨0, (), rfl, ((if_pos hc_3).trans (if_pos hc_7)).symm, trivial⟩, hS.F ht⟩) hS.2.2 dX12_bundle_66
          · exact absurd c_9 (by decide)
        · exact absurd c_8 (by decide)
      · obtain rfl : 0 = r_5 := (hw_6.trans (if_neg (fun z => hc_7 ((tz_in64 (by first | rfl | decide) rfl (by first | rfl | decide)).mp z)))).symm
        refine lv_if_ne (tgt := 34) hx hb dX12_bundle_24 (by decide) (fun c_12 => ?_) (fun c_12 => ?_)
        · exact absurd c_12 (by decide)
        · refine lv_aload_n hx hb dX12_bundle_27 rfl (lv_at hl 0 rfl) ?_
          refine lv_bipush (v := (-2)) hx hb dX12_bundle_28 (by decide) ?_
          have hPc := hP.sub (ws' := [(mo, .inr (12, [.ref nw, .ref kp, .ref ik, .ref mr, .long 0, .long 1, .ref mw, .long 0, .int 0, .int 0, .long 0, .long 0, .ref mq, .ref mz, .ref my, .int 0, .ref mb, .int 0, .int 0, .int 0, .int 0, .int 0, .ref mx, .ref mv])), (mr, .inl (cm, 3, .inl (fun _ => 0)))]) [0, 2] rfl
          have hDc := hD.sub (ws' := [(mo, .inr (12, [.ref nw, .ref kp, .ref ik, .ref mr, .long 0, .long 1, .ref mw, .long 0, .int 0, .int 0, .long 0, .long 0, .ref mq, .ref mz, .ref my, .int 0, .ref mb, .int 0, .int 0, .int 0, .int 0, .int 0, .ref mx, .ref mv])), (mr, .inl (cm, 3, .inl (fun _ => 0)))]) [0, 2] (by decide) rfl
          have hKc := hK.sub (tys' := [(cm, .int)]) [1] rfl
          have hFc := va_free (wc := [(mo, .inr (12, [.ref nw, .ref kp, .ref ik, .ref mr, .long 0, .long 1, .ref mw, .long 0, .int 0, .int 0, .long 0, .long 0, .ref mq, .ref mz, .ref my, .int 0, .ref mb, .int 0, .int 0, .int 0, .int 0, .int 0, .ref mx, .ref mv])), (mr, .inl (cm, 3, .inl (fun _ => 0)))]) hD hS hA [0, 2] rfl
          refine va_calli (va_runV (As := [.int (-2)]) (rest := []) ⟨hx, hb, hml, hown, hts⟩ (k_bad l dC dI mo nw kp ik mr mw mq mz my mb mx mv cm (-2) s.heap.size) (cwV 1 hts gX12_bundle_X12_bad rfl rfl rfl (by decide +kernel) ⟨Nat.le_of_ble_eq_true rfl, Nat.le_of_ble_eq_true rfl⟩) ⟨fun a U g mk q => by obtain ⟨q0, q1, qP, qK, qD⟩ := q; exact ⟨q0, q1, qP, va_K.moved (u := U) (U := U.calling g mk a) (Vm.Alike.refl U.vm) qK, qD⟩, va_recv hK hP (ci := 12) (q0 := 0) rfl rfl, fun U hU hW => ⟨rfl, by rw [hU], by rw [hU]; exact hPc, va_K.moved hW.alike hKc, hDc.weaken (fun _ _ _ _ => trivial)⟩⟩ rfl rfl hl.1 rfl (lv_room (Nat.le_of_ble_eq_true rfl)) dX12_bundle_30 ⟨Nat.le_of_ble_eq_true rfl, Nat.le_of_ble_eq_true rfl⟩) hS (fun q _ h => hFc q h) hFc (fun r_13 u_ t H1 locs ht hvm hw_14 hB hz1 hk1 hS => ?_)
          obtain ⟨hP, hD⟩ := va_join (wr := [(nw, .inl (cn, 350, .inl (fun _ => 0)))]) (w1 := []) hP hD [0, 2] [1] rfl rfl (by decide) (by decide) hk1 hFc tz_P0 tz_D0
          generalize H1 = H at hP hS ⊢
          have hP : va_P (dC, dI) vwCl [(nw, .inl (cn, 350, .inl (fun _ => 0)))] H := hP
          have hD : va_D A [(nw, .inl (cn, 350, .inl (fun _ => 0)))] := hD
          obtain rfl : (-2) = r_13 := hw_14.symm
          exact W.iret (v := (-2)) hx hb hr (fun t ht hW => ⟨⟨(-2), (), rfl, ((if_pos hc_3).trans (if_neg hc_7)).symm, trivial⟩, hS.F ht⟩) hS.2.2 dX12_bundle_33
  · obtain rfl : 0 = r_1 := (hw_2.trans (if_neg (fun z => hc_3 ((tz_in64 (by first | rfl | decide) rfl (by first | rfl | decide)).mp z)))).symm
    refine lv_if_eq (tgt := 27) hx hb dX12_bundle_11 (by decide) (fun c_15 => ?_) (fun c_15 => ?_)
    · refine lv_aload_n hx hb dX12_bundle_27 rfl (lv_at hl 0 rfl) ?_
      refine lv_bipush (v := (-2)) hx hb dX12_bundle_28 (by decide) ?_
      have hPc := hP.sub (ws' := [(mo, .inr (12, [.ref nw, .ref kp, .ref ik, .ref mr, .long 0, .long 1, .ref mw, .long 0, .int 0, .int 0, .long 0, .long 0, .ref mq, .ref mz, .ref my, .int 0, .ref mb, .int 0, .int 0, .int 0, .int 0, .int 0, .ref mx, .ref mv])), (mr, .inl (cm, 3, .inl (fun _ => 0)))]) [0, 2] rfl
      have hDc := hD.sub (ws' := [(mo, .inr (12, [.ref nw, .ref kp, .ref ik, .ref mr, .long 0, .long 1, .ref mw, .long 0, .int 0, .int 0, .long 0, .long 0, .ref mq, .ref mz, .ref my, .int 0, .ref mb, .int 0, .int 0, .int 0, .int 0, .int 0, .ref mx, .ref mv])), (mr, .inl (cm, 3, .inl (fun _ => 0)))]) [0, 2] (by decide) rfl
      have hKc := hK.sub (tys' := [(cm, .int)]) [1] rfl
      have hFc := va_free (wc := [(mo, .inr (12, [.ref nw, .ref kp, .ref ik, .ref mr, .long 0, .long 1, .ref mw, .long 0, .int 0, .int 0, .long 0, .long 0, .ref mq, .ref mz, .ref my, .int 0, .ref mb, .int 0, .int 0, .int 0, .int 0, .int 0, .ref mx, .ref mv])), (mr, .inl (cm, 3, .inl (fun _ => 0)))]) hD hS hA [0, 2] rfl
      refine va_calli (va_runV (As := [.int (-2)]) (rest := []) ⟨hx, hb, hml, hown, hts⟩ (k_bad l dC dI mo nw kp ik mr mw mq mz my mb mx mv cm (-2) s.heap.size) (cwV 1 hts gX12_bundle_X12_bad rfl rfl rfl (by decide +kernel) ⟨Nat.le_of_ble_eq_true rfl, Nat.le_of_ble_eq_true rfl⟩) ⟨fun a U g mk q => by obtain ⟨q0, q1, qP, qK, qD⟩ := q; exact ⟨q0, q1, qP, va_K.moved (u := U) (U := U.calling g mk a) (Vm.Alike.refl U.vm) qK, qD⟩, va_recv hK hP (ci := 12) (q0 := 0) rfl rfl, fun U hU hW => ⟨rfl, by rw [hU], by rw [hU]; exact hPc, va_K.moved hW.alike hKc, hDc.weaken (fun _ _ _ _ => trivial)⟩⟩ rfl rfl hl.1 rfl (lv_room (Nat.le_of_ble_eq_true rfl)) dX12_bundle_30 ⟨Nat.le_of_ble_eq_true rfl, Nat.le_of_ble_eq_true rfl⟩) hS (fun q _ h => hFc q h) hFc (fun r_16 u_ t H1 locs ht hvm hw_17 hB hz1 hk1 hS => ?_)
      obtain ⟨hP, hD⟩ := va_join (wr := [(nw, .inl (cn, 350, .inl (fun _ => 0)))]) (w1 := []) hP hD [0, 2] [1] rfl rfl (by decide) (by decide) hk1 hFc tz_P0 tz_D0
      generalize H1 = H at hP hS ⊢
      have hP : va_P (dC, dI) vwCl [(nw, .inl (cn, 350, .inl (fun _ => 0)))] H := hP
      have hD : va_D A [(nw, .inl (cn, 350, .inl (fun _ => 0)))] := hD
      obtain rfl : (-2) = r_16 := hw_17.symm
      exact W.iret (v := (-2)) hx hb hr (fun t ht hW => ⟨⟨(-2), (), rfl, (if_neg hc_3).symm, trivial⟩, hS.F ht⟩) hS.2.2 dX12_bundle_33
    · exact absurd c_15 (by decide)
set_option maxRecDepth 20000 in
theorem ggX12_band_X12_isBundle : GoodIn wsX12_band wsX12_isBundle := goodIn_r _ [8, 3, 9, 10, 7, 11, 28, 29, 30, 31, 32, 33, 34, 35, 36, 37, 38, 39, 40, 41, 42, 43, 44, 45, 46, 47, 48, 49, 50, 51] (by decide +kernel) (by decide +kernel)
set_option maxRecDepth 20000 in
theorem gX12_band_X12_isBundle : GoodIn wsX12_band (wsV RX12 81 RX12 yX12_isBundle wsX12_isBundle) := goodIn_app (goodIn_of _ (by decide +kernel)) ggX12_band_X12_isBundle
set_option maxRecDepth 20000 in
theorem ggX12_band_X12_bad : GoodIn wsX12_band wsX12_bad := goodIn_r _ [19, 20, 28, 29, 30, 31, 32, 33, 34, 35, 36, 37, 38, 39, 40, 41, 42, 43, 44, 45, 46, 47, 48, 49, 50, 51] (by decide +kernel) (by decide +kernel)
set_option maxRecDepth 20000 in
theorem gX12_band_X12_bad : GoodIn wsX12_band (wsV RX12 61 RX12 yX12_bad wsX12_bad) := goodIn_app (goodIn_of _ (by decide +kernel)) ggX12_band_X12_bad
theorem dX12_band_0 : decode cX12_band 0 = .ok (.aload_n 0, 1) := by decide +kernel
theorem dX12_band_1 : decode cX12_band 1 = .ok (.iload_n 1, 1) := by decide +kernel
theorem dX12_band_2 : decode cX12_band 2 = .ok (.invokevirtual 81, 3) := by decide +kernel
theorem dX12_band_5 : decode cX12_band 5 = .ok (.ifCond .eq 25, 3) := by decide +kernel
theorem dX12_band_30 : decode cX12_band 30 = .ok (.aload_n 0, 1) := by decide +kernel
theorem dX12_band_31 : decode cX12_band 31 = .ok (.bipush (-2), 2) := by decide +kernel
theorem dX12_band_33 : decode cX12_band 33 = .ok (.invokevirtual 61, 3) := by decide +kernel
theorem dX12_band_36 : decode cX12_band 36 = .ok (.ireturn, 1) := by decide +kernel
set_option maxHeartbeats 4000000 in
set_option maxRecDepth 100000 in
theorem k_m_band (l : Launch) (dC : Nat → ClassId) (dI : Nat → Nat → Nat) (mo : Nat) (nw : Nat) (kp : Nat) (ik : Nat) (mr : Nat) (mw : Nat) (mq : Nat) (mz : Nat) (my : Nat) (mb : Nat) (mx : Nat) (mv : Nat) (cn : ClassId) (cm : ClassId) (na : Int32) (nb : Int32) (nc : Int32) (sz : Nat) : Met l yX12_band wsX12_band ({ frames := 2, cells := 0, slots := 0, locals := 46 }) (va_Pc [.ref mo, .int na, .int nb, .int nc] (fun U => U.heap.size = sz ∧ va_P (dC, dI) vwCl [(mo, .inr (12, [.ref nw, .ref kp, .ref ik, .ref mr, .long 0, .long 1, .ref mw, .long 0, .int 0, .int 0, .long 0, .long 0, .ref mq, .ref mz, .ref my, .int 0, .ref mb, .int 0, .int 0, .int 0, .int 0, .int 0, .ref mx, .ref mv])), (nw, .inl (cn, 350, .inl (fun _ => 0))), (mr, .inl (cm, 3, .inl (fun _ => 0)))] U.heap ∧ va_K (dC, dI) vwCl [(cn, .int), (cm, .int)] U ∧ va_D (fun _ => True) [(mo, .inr (12, [.ref nw, .ref kp, .ref ik, .ref mr, .long 0, .long 1, .ref mw, .long 0, .int 0, .int 0, .long 0, .long 0, .ref mq, .ref mz, .ref my, .int 0, .ref mb, .int 0, .int 0, .int 0, .int 0, .int 0, .ref mx, .ref mv])), (nw, .inl (cn, 350, .inl (fun _ => 0))), (mr, .inl (cm, 3, .inl (fun _ => 0)))])) (va_Qi (fun (r : Int32) (_ : Unit) => r = (-2)) (fun _ _ => True) (va_A [(mo, .inr (12, [.ref nw, .ref kp, .ref ik, .ref mr, .long 0, .long 1, .ref mw, .long 0, .int 0, .int 0, .long 0, .long 0, .ref mq, .ref mz, .ref my, .int 0, .ref mb, .int 0, .int 0, .int 0, .int 0, .int 0, .ref mx, .ref mv])), (nw, .inl (cn, 350, .inl (fun _ => 0))), (mr, .inl (cm, 3, .inl (fun _ => 0)))] sz)) 0 0 (va_A [(mo, .inr (12, [.ref nw, .ref kp, .ref ik, .ref mr, .long 0, .long 1, .ref mw, .long 0, .int 0, .int 0, .long 0, .long 0, .ref mq, .ref mz, .ref my, .int 0, .ref mb, .int 0, .int 0, .int 0, .int 0, .int 0, .ref mx, .ref mv])), (nw, .inl (cn, 350, .inl (fun _ => 0))), (mr, .inl (cm, 3, .inl (fun _ => 0)))] sz) := by
  refine Met.ofW (cc := cX12_band) (maxL := 5) (ret := (some .int)) (by decide) rfl ?_
  intro p e s m args below meth c s₁ B hml hv
  obtain ⟨rfl, hsz, hP, hK, hD0⟩ := hv
  have hx := B.exec
  have hb := B.bytes
  have hr := B.returns
  have hts := atoms_spec (ws := wsX12_band) B.pre
  have hown : s.vm.findClass RX12 = some m.cls := findClass_of_methodNamed B.named
  have hlocks := B.notSynchronized
  subst hsz
  have hD := hD0.self (sz := s.heap.size)
  generalize hAe : va_A [(mo, .inr (12, [.ref nw, .ref kp, .ref ik, .ref mr, .long 0, .long 1, .ref mw, .long 0, .int 0, .int 0, .long 0, .long 0, .ref mq, .ref mz, .ref my, .int 0, .ref mb, .int 0, .int 0, .int 0, .int 0, .int 0, .ref mx, .ref mv])), (nw, .inl (cn, 350, .inl (fun _ => 0))), (mr, .inl (cm, 3, .inl (fun _ => 0)))] s.heap.size = A at hD ⊢
  have hA : ∀ q : Nat, s.heap.size ≤ q → A q := fun q h => by rw [← hAe]; exact Or.inr h
  have hS : va_S A s.heap s.heap [] := va_S.rf
  have hP : va_P (dC, dI) vwCl [(mo, .inr (12, [.ref nw, .ref kp, .ref ik, .ref mr, .long 0, .long 1, .ref mw, .long 0, .int 0, .int 0, .long 0, .long 0, .ref mq, .ref mz, .ref my, .int 0, .ref mb, .int 0, .int 0, .int 0, .int 0, .int 0, .ref mx, .ref mv])), (nw, .inl (cn, 350, .inl (fun _ => 0))), (mr, .inl (cm, 3, .inl (fun _ => 0)))] s.heap := hP
  have hl := lv_entry ([.ref mo, .int na, .int nb, .int nc]) (n := 5) (Nat.le_of_ble_eq_true rfl)
  rw [lg_entry_eq]
  generalize (lg_sl ([.ref mo, .int na, .int nb, .int nc]) ++ List.replicate (5 - (lg_sl ([.ref mo, .int na, .int nb, .int nc])).length) Slot.unset).toArray = ls at hl ⊢
  have hl : lv_has ls 5 [(0, .ref mo), (1, .int na), (2, .int nb), (3, .int nc)] := hl
  refine lv_aload_n hx hb dX12_band_0 rfl (lv_at hl 0 rfl) ?_
  refine lv_iload_n hx hb dX12_band_1 rfl (lv_at hl 1 rfl) ?_
  have hPc_1 := hP.sub (ws' := [(mo, .inr (12, [.ref nw, .ref kp, .ref ik, .ref mr, .long 0, .long 1, .ref mw, .long 0, .int 0, .int 0, .long 0, .long 0, .ref mq, .ref mz, .ref my, .int 0, .ref mb, .int 0, .int 0, .int 0, .int 0, .int 0, .ref mx, .ref mv])), (nw, .inl (cn, 350, .inl (fun _ => 0)))]) [0, 1] rfl
  have hKc_2 := hK.sub (tys' := [(cn, .int)]) [0] rfl
  refine vp_callSi (va_Run.run (va_runV (As := [.int na]) (rest := []) ⟨hx, hb, hml, hown, hts⟩ (k_m_isBundle l dC dI mo nw kp ik mr mw mq mz my mb mx mv cn na) (cwV 1 hts gX12_band_X12_isBundle rfl rfl rfl (by decide +kernel) ⟨Nat.le_of_ble_eq_true rfl, Nat.le_of_ble_eq_true rfl⟩) ⟨fun a U g mk q => by obtain ⟨q0, qP, qK⟩ := q; exact ⟨q0, qP, va_K.moved (u := U) (U := U.calling g mk a) (Vm.Alike.refl U.vm) qK⟩, va_recv hK hP (ci := 12) (q0 := 0) rfl rfl, fun U hU hW => ⟨rfl, by rw [hU]; exact hPc_1, va_K.moved hW.alike hKc_2⟩⟩ rfl rfl hl.1 rfl (lv_room (Nat.le_of_ble_eq_true rfl)) dX12_band_2 ⟨Nat.le_of_ble_eq_true rfl, Nat.le_of_ble_eq_true rfl⟩)) (fun r_3 hw_4 => ?_)
  obtain rfl : 0 = r_3 := hw_4.symm
  refine lv_if_eq (tgt := 30) hx hb dX12_band_5 (by decide) (fun c_5 => ?_) (fun c_5 => ?_)
  · refine lv_aload_n hx hb dX12_band_30 rfl (lv_at hl 0 rfl) ?_
    refine lv_bipush (v := (-2)) hx hb dX12_band_31 (by decide) ?_
    have hPc := hP.sub (ws' := [(mo, .inr (12, [.ref nw, .ref kp, .ref ik, .ref mr, .long 0, .long 1, .ref mw, .long 0, .int 0, .int 0, .long 0, .long 0, .ref mq, .ref mz, .ref my, .int 0, .ref mb, .int 0, .int 0, .int 0, .int 0, .int 0, .ref mx, .ref mv])), (mr, .inl (cm, 3, .inl (fun _ => 0)))]) [0, 2] rfl
    have hDc := hD.sub (ws' := [(mo, .inr (12, [.ref nw, .ref kp, .ref ik, .ref mr, .long 0, .long 1, .ref mw, .long 0, .int 0, .int 0, .long 0, .long 0, .ref mq, .ref mz, .ref my, .int 0, .ref mb, .int 0, .int 0, .int 0, .int 0, .int 0, .ref mx, .ref mv])), (mr, .inl (cm, 3, .inl (fun _ => 0)))]) [0, 2] (by decide) rfl
    have hKc := hK.sub (tys' := [(cm, .int)]) [1] rfl
    have hFc := va_free (wc := [(mo, .inr (12, [.ref nw, .ref kp, .ref ik, .ref mr, .long 0, .long 1, .ref mw, .long 0, .int 0, .int 0, .long 0, .long 0, .ref mq, .ref mz, .ref my, .int 0, .ref mb, .int 0, .int 0, .int 0, .int 0, .int 0, .ref mx, .ref mv])), (mr, .inl (cm, 3, .inl (fun _ => 0)))]) hD hS hA [0, 2] rfl
    refine va_calli (va_runV (As := [.int (-2)]) (rest := []) ⟨hx, hb, hml, hown, hts⟩ (k_bad l dC dI mo nw kp ik mr mw mq mz my mb mx mv cm (-2) s.heap.size) (cwV 1 hts gX12_band_X12_bad rfl rfl rfl (by decide +kernel) ⟨Nat.le_of_ble_eq_true rfl, Nat.le_of_ble_eq_true rfl⟩) ⟨fun a U g mk q => by obtain ⟨q0, q1, qP, qK, qD⟩ := q; exact ⟨q0, q1, qP, va_K.moved (u := U) (U := U.calling g mk a) (Vm.Alike.refl U.vm) qK, qD⟩, va_recv hK hP (ci := 12) (q0 := 0) rfl rfl, fun U hU hW => ⟨rfl, by rw [hU], by rw [hU]; exact hPc, va_K.moved hW.alike hKc, hDc.weaken (fun _ _ _ _ => trivial)⟩⟩ rfl rfl hl.1 rfl (lv_room (Nat.le_of_ble_eq_true rfl)) dX12_band_33 ⟨Nat.le_of_ble_eq_true rfl, Nat.le_of_ble_eq_true rfl⟩) hS (fun q _ h => hFc q h) hFc (fun r_6 u_ t H1 locs ht hvm hw_7 hB hz1 hk1 hS => ?_)
    obtain ⟨hP, hD⟩ := va_join (wr := [(nw, .inl (cn, 350, .inl (fun _ => 0)))]) (w1 := []) hP hD [0, 2] [1] rfl rfl (by decide) (by decide) hk1 hFc tz_P0 tz_D0
    generalize H1 = H at hP hS ⊢
    have hP : va_P (dC, dI) vwCl [(nw, .inl (cn, 350, .inl (fun _ => 0)))] H := hP
    have hD : va_D A [(nw, .inl (cn, 350, .inl (fun _ => 0)))] := hD
    obtain rfl : (-2) = r_6 := hw_7.symm
    exact W.iret (v := (-2)) hx hb hr (fun t ht hW => ⟨⟨(-2), (), rfl, rfl, trivial⟩, hS.F ht⟩) hS.2.2 dX12_band_36
  · exact absurd c_5 (by decide)
set_option maxRecDepth 20000 in
theorem ggX12_tell_X12_isBundle : GoodIn wsX12_tell wsX12_isBundle := goodIn_r _ [8, 3, 9, 10, 7, 11, 36, 37, 38, 39, 40, 41, 42, 43, 44, 45, 46, 47, 48, 49, 50, 51, 52, 53, 54, 55, 56, 57, 58, 59] (by decide +kernel) (by decide +kernel)
set_option maxRecDepth 20000 in
theorem gX12_tell_X12_isBundle : GoodIn wsX12_tell (wsV RX12 81 RX12 yX12_isBundle wsX12_isBundle) := goodIn_app (goodIn_of _ (by decide +kernel)) ggX12_tell_X12_isBundle
set_option maxRecDepth 20000 in
theorem ggX12_tell_X12_bad : GoodIn wsX12_tell wsX12_bad := goodIn_r _ [23, 24, 36, 37, 38, 39, 40, 41, 42, 43, 44, 45, 46, 47, 48, 49, 50, 51, 52, 53, 54, 55, 56, 57, 58, 59] (by decide +kernel) (by decide +kernel)
set_option maxRecDepth 20000 in
theorem gX12_tell_X12_bad : GoodIn wsX12_tell (wsV RX12 61 RX12 yX12_bad wsX12_bad) := goodIn_app (goodIn_of _ (by decide +kernel)) ggX12_tell_X12_bad
theorem dX12_tell_0 : decode cX12_tell 0 = .ok (.aload_n 0, 1) := by decide +kernel
theorem dX12_tell_1 : decode cX12_tell 1 = .ok (.iload_n 1, 1) := by decide +kernel
theorem dX12_tell_2 : decode cX12_tell 2 = .ok (.invokevirtual 81, 3) := by decide +kernel
theorem dX12_tell_5 : decode cX12_tell 5 = .ok (.ifCond .eq 33, 3) := by decide +kernel
theorem dX12_tell_38 : decode cX12_tell 38 = .ok (.aload_n 0, 1) := by decide +kernel
theorem dX12_tell_39 : decode cX12_tell 39 = .ok (.bipush (-2), 2) := by decide +kernel
theorem dX12_tell_41 : decode cX12_tell 41 = .ok (.invokevirtual 61, 3) := by decide +kernel
theorem dX12_tell_44 : decode cX12_tell 44 = .ok (.ireturn, 1) := by decide +kernel
set_option maxHeartbeats 4000000 in
set_option maxRecDepth 100000 in
theorem k_m_tell (l : Launch) (dC : Nat → ClassId) (dI : Nat → Nat → Nat) (mo : Nat) (nw : Nat) (kp : Nat) (ik : Nat) (mr : Nat) (mw : Nat) (mq : Nat) (mz : Nat) (my : Nat) (mb : Nat) (mx : Nat) (mv : Nat) (cn : ClassId) (cm : ClassId) (na : Int32) (nb : Int32) (nc : Int32) (nd : Int32) (sz : Nat) : Met l yX12_tell wsX12_tell ({ frames := 2, cells := 0, slots := 0, locals := 46 }) (va_Pc [.ref mo, .int na, .int nb, .int nc, .int nd] (fun U => U.heap.size = sz ∧ va_P (dC, dI) vwCl [(mo, .inr (12, [.ref nw, .ref kp, .ref ik, .ref mr, .long 0, .long 1, .ref mw, .long 0, .int 0, .int 0, .long 0, .long 0, .ref mq, .ref mz, .ref my, .int 0, .ref mb, .int 0, .int 0, .int 0, .int 0, .int 0, .ref mx, .ref mv])), (nw, .inl (cn, 350, .inl (fun _ => 0))), (mr, .inl (cm, 3, .inl (fun _ => 0)))] U.heap ∧ va_K (dC, dI) vwCl [(cn, .int), (cm, .int)] U ∧ va_D (fun _ => True) [(mo, .inr (12, [.ref nw, .ref kp, .ref ik, .ref mr, .long 0, .long 1, .ref mw, .long 0, .int 0, .int 0, .long 0, .long 0, .ref mq, .ref mz, .ref my, .int 0, .ref mb, .int 0, .int 0, .int 0, .int 0, .int 0, .ref mx, .ref mv])), (nw, .inl (cn, 350, .inl (fun _ => 0))), (mr, .inl (cm, 3, .inl (fun _ => 0)))])) (va_Qi (fun (r : Int32) (_ : Unit) => r = (-2)) (fun _ _ => True) (va_A [(mo, .inr (12, [.ref nw, .ref kp, .ref ik, .ref mr, .long 0, .long 1, .ref mw, .long 0, .int 0, .int 0, .long 0, .long 0, .ref mq, .ref mz, .ref my, .int 0, .ref mb, .int 0, .int 0, .int 0, .int 0, .int 0, .ref mx, .ref mv])), (nw, .inl (cn, 350, .inl (fun _ => 0))), (mr, .inl (cm, 3, .inl (fun _ => 0)))] sz)) 0 0 (va_A [(mo, .inr (12, [.ref nw, .ref kp, .ref ik, .ref mr, .long 0, .long 1, .ref mw, .long 0, .int 0, .int 0, .long 0, .long 0, .ref mq, .ref mz, .ref my, .int 0, .ref mb, .int 0, .int 0, .int 0, .int 0, .int 0, .ref mx, .ref mv])), (nw, .inl (cn, 350, .inl (fun _ => 0))), (mr, .inl (cm, 3, .inl (fun _ => 0)))] sz) := by
  refine Met.ofW (cc := cX12_tell) (maxL := 5) (ret := (some .int)) (by decide) rfl ?_
  intro p e s m args below meth c s₁ B hml hv
  obtain ⟨rfl, hsz, hP, hK, hD0⟩ := hv
  have hx := B.exec
  have hb := B.bytes
  have hr := B.returns
  have hts := atoms_spec (ws := wsX12_tell) B.pre
  have hown : s.vm.findClass RX12 = some m.cls := findClass_of_methodNamed B.named
  have hlocks := B.notSynchronized
  subst hsz
  have hD := hD0.self (sz := s.heap.size)
  generalize hAe : va_A [(mo, .inr (12, [.ref nw, .ref kp, .ref ik, .ref mr, .long 0, .long 1, .ref mw, .long 0, .int 0, .int 0, .long 0, .long 0, .ref mq, .ref mz, .ref my, .int 0, .ref mb, .int 0, .int 0, .int 0, .int 0, .int 0, .ref mx, .ref mv])), (nw, .inl (cn, 350, .inl (fun _ => 0))), (mr, .inl (cm, 3, .inl (fun _ => 0)))] s.heap.size = A at hD ⊢
  have hA : ∀ q : Nat, s.heap.size ≤ q → A q := fun q h => by rw [← hAe]; exact Or.inr h
  have hS : va_S A s.heap s.heap [] := va_S.rf
  have hP : va_P (dC, dI) vwCl [(mo, .inr (12, [.ref nw, .ref kp, .ref ik, .ref mr, .long 0, .long 1, .ref mw, .long 0, .int 0, .int 0, .long 0, .long 0, .ref mq, .ref mz, .ref my, .int 0, .ref mb, .int 0, .int 0, .int 0, .int 0, .int 0, .ref mx, .ref mv])), (nw, .inl (cn, 350, .inl (fun _ => 0))), (mr, .inl (cm, 3, .inl (fun _ => 0)))] s.heap := hP
  have hl := lv_entry ([.ref mo, .int na, .int nb, .int nc, .int nd]) (n := 5) (Nat.le_of_ble_eq_true rfl)
  rw [lg_entry_eq]
  generalize (lg_sl ([.ref mo, .int na, .int nb, .int nc, .int nd]) ++ List.replicate (5 - (lg_sl ([.ref mo, .int na, .int nb, .int nc, .int nd])).length) Slot.unset).toArray = ls at hl ⊢
  have hl : lv_has ls 5 [(0, .ref mo), (1, .int na), (2, .int nb), (3, .int nc), (4, .int nd)] := hl
  refine lv_aload_n hx hb dX12_tell_0 rfl (lv_at hl 0 rfl) ?_
  refine lv_iload_n hx hb dX12_tell_1 rfl (lv_at hl 1 rfl) ?_
  have hPc_1 := hP.sub (ws' := [(mo, .inr (12, [.ref nw, .ref kp, .ref ik, .ref mr, .long 0, .long 1, .ref mw, .long 0, .int 0, .int 0, .long 0, .long 0, .ref mq, .ref mz, .ref my, .int 0, .ref mb, .int 0, .int 0, .int 0, .int 0, .int 0, .ref mx, .ref mv])), (nw, .inl (cn, 350, .inl (fun _ => 0)))]) [0, 1] rfl
  have hKc_2 := hK.sub (tys' := [(cn, .int)]) [0] rfl
  refine vp_callSi (va_Run.run (va_runV (As := [.int na]) (rest := []) ⟨hx, hb, hml, hown, hts⟩ (k_m_isBundle l dC dI mo nw kp ik mr mw mq mz my mb mx mv cn na) (cwV 1 hts gX12_tell_X12_isBundle rfl rfl rfl (by decide +kernel) ⟨Nat.le_of_ble_eq_true rfl, Nat.le_of_ble_eq_true rfl⟩) ⟨fun a U g mk q => by obtain ⟨q0, qP, qK⟩ := q; exact ⟨q0, qP, va_K.moved (u := U) (U := U.calling g mk a) (Vm.Alike.refl U.vm) qK⟩, va_recv hK hP (ci := 12) (q0 := 0) rfl rfl, fun U hU hW => ⟨rfl, by rw [hU]; exact hPc_1, va_K.moved hW.alike hKc_2⟩⟩ rfl rfl hl.1 rfl (lv_room (Nat.le_of_ble_eq_true rfl)) dX12_tell_2 ⟨Nat.le_of_ble_eq_true rfl, Nat.le_of_ble_eq_true rfl⟩)) (fun r_3 hw_4 => ?_)
  obtain rfl : 0 = r_3 := hw_4.symm
  refine lv_if_eq (tgt := 38) hx hb dX12_tell_5 (by decide) (fun c_5 => ?_) (fun c_5 => ?_)
  · refine lv_aload_n hx hb dX12_tell_38 rfl (lv_at hl 0 rfl) ?_
    refine lv_bipush (v := (-2)) hx hb dX12_tell_39 (by decide) ?_
    have hPc := hP.sub (ws' := [(mo, .inr (12, [.ref nw, .ref kp, .ref ik, .ref mr, .long 0, .long 1, .ref mw, .long 0, .int 0, .int 0, .long 0, .long 0, .ref mq, .ref mz, .ref my, .int 0, .ref mb, .int 0, .int 0, .int 0, .int 0, .int 0, .ref mx, .ref mv])), (mr, .inl (cm, 3, .inl (fun _ => 0)))]) [0, 2] rfl
    have hDc := hD.sub (ws' := [(mo, .inr (12, [.ref nw, .ref kp, .ref ik, .ref mr, .long 0, .long 1, .ref mw, .long 0, .int 0, .int 0, .long 0, .long 0, .ref mq, .ref mz, .ref my, .int 0, .ref mb, .int 0, .int 0, .int 0, .int 0, .int 0, .ref mx, .ref mv])), (mr, .inl (cm, 3, .inl (fun _ => 0)))]) [0, 2] (by decide) rfl
    have hKc := hK.sub (tys' := [(cm, .int)]) [1] rfl
    have hFc := va_free (wc := [(mo, .inr (12, [.ref nw, .ref kp, .ref ik, .ref mr, .long 0, .long 1, .ref mw, .long 0, .int 0, .int 0, .long 0, .long 0, .ref mq, .ref mz, .ref my, .int 0, .ref mb, .int 0, .int 0, .int 0, .int 0, .int 0, .ref mx, .ref mv])), (mr, .inl (cm, 3, .inl (fun _ => 0)))]) hD hS hA [0, 2] rfl
    refine va_calli (va_runV (As := [.int (-2)]) (rest := []) ⟨hx, hb, hml, hown, hts⟩ (k_bad l dC dI mo nw kp ik mr mw mq mz my mb mx mv cm (-2) s.heap.size) (cwV 1 hts gX12_tell_X12_bad rfl rfl rfl (by decide +kernel) ⟨Nat.le_of_ble_eq_true rfl, Nat.le_of_ble_eq_true rfl⟩) ⟨fun a U g mk q => by obtain ⟨q0, q1, qP, qK, qD⟩ := q; exact ⟨q0, q1, qP, va_K.moved (u := U) (U := U.calling g mk a) (Vm.Alike.refl U.vm) qK, qD⟩, va_recv hK hP (ci := 12) (q0 := 0) rfl rfl, fun U hU hW => ⟨rfl, by rw [hU], by rw [hU]; exact hPc, va_K.moved hW.alike hKc, hDc.weaken (fun _ _ _ _ => trivial)⟩⟩ rfl rfl hl.1 rfl (lv_room (Nat.le_of_ble_eq_true rfl)) dX12_tell_41 ⟨Nat.le_of_ble_eq_true rfl, Nat.le_of_ble_eq_true rfl⟩) hS (fun q _ h => hFc q h) hFc (fun r_6 u_ t H1 locs ht hvm hw_7 hB hz1 hk1 hS => ?_)
    obtain ⟨hP, hD⟩ := va_join (wr := [(nw, .inl (cn, 350, .inl (fun _ => 0)))]) (w1 := []) hP hD [0, 2] [1] rfl rfl (by decide) (by decide) hk1 hFc tz_P0 tz_D0
    generalize H1 = H at hP hS ⊢
    have hP : va_P (dC, dI) vwCl [(nw, .inl (cn, 350, .inl (fun _ => 0)))] H := hP
    have hD : va_D A [(nw, .inl (cn, 350, .inl (fun _ => 0)))] := hD
    obtain rfl : (-2) = r_6 := hw_7.symm
    exact W.iret (v := (-2)) hx hb hr (fun t ht hW => ⟨⟨(-2), (), rfl, rfl, trivial⟩, hS.F ht⟩) hS.2.2 dX12_tell_44
  · exact absurd c_5 (by decide)
set_option maxRecDepth 20000 in
theorem ggX12_back_X12_isCount : GoodIn wsX12_back wsX12_isCount := goodIn_r _ [6, 1, 7, 8, 5, 9, 19, 20, 21, 22, 23, 24, 25, 26, 27, 28, 29, 30, 31, 32, 33, 34, 35, 36, 37, 38, 39, 40, 41, 42] (by decide +kernel) (by decide +kernel)
set_option maxRecDepth 20000 in
theorem gX12_back_X12_isCount : GoodIn wsX12_back (wsV RX12 110 RX12 yX12_isCount wsX12_isCount) := goodIn_app (goodIn_of _ (by decide +kernel)) ggX12_back_X12_isCount
set_option maxRecDepth 20000 in
theorem ggX12_back_X12_bad : GoodIn wsX12_back wsX12_bad := goodIn_r _ [13, 14, 19, 20, 21, 22, 23, 24, 25, 26, 27, 28, 29, 30, 31, 32, 33, 34, 35, 36, 37, 38, 39, 40, 41, 42] (by decide +kernel) (by decide +kernel)
set_option maxRecDepth 20000 in
theorem gX12_back_X12_bad : GoodIn wsX12_back (wsV RX12 61 RX12 yX12_bad wsX12_bad) := goodIn_app (goodIn_of _ (by decide +kernel)) ggX12_back_X12_bad
theorem dX12_back_0 : decode cX12_back 0 = .ok (.aload_n 0, 1) := by decide +kernel
theorem dX12_back_1 : decode cX12_back 1 = .ok (.iload_n 1, 1) := by decide +kernel
theorem dX12_back_2 : decode cX12_back 2 = .ok (.invokevirtual 110, 3) := by decide +kernel
theorem dX12_back_5 : decode cX12_back 5 = .ok (.ifCond .ne 10, 3) := by decide +kernel
theorem dX12_back_8 : decode cX12_back 8 = .ok (.aload_n 0, 1) := by decide +kernel
theorem dX12_back_9 : decode cX12_back 9 = .ok (.bipush (-2), 2) := by decide +kernel
theorem dX12_back_11 : decode cX12_back 11 = .ok (.invokevirtual 61, 3) := by decide +kernel
theorem dX12_back_14 : decode cX12_back 14 = .ok (.ireturn, 1) := by decide +kernel
set_option maxHeartbeats 4000000 in
set_option maxRecDepth 100000 in
theorem k_m_back (l : Launch) (dC : Nat → ClassId) (dI : Nat → Nat → Nat) (mo : Nat) (nw : Nat) (kp : Nat) (ik : Nat) (mr : Nat) (mw : Nat) (mq : Nat) (mz : Nat) (my : Nat) (mb : Nat) (mx : Nat) (mv : Nat) (cn : ClassId) (cm : ClassId) (na : Int32) (sz : Nat) : Met l yX12_back wsX12_back ({ frames := 2, cells := 0, slots := 0, locals := 46 }) (va_Pc [.ref mo, .int na] (fun U => U.heap.size = sz ∧ va_P (dC, dI) vwCl [(mo, .inr (12, [.ref nw, .ref kp, .ref ik, .ref mr, .long 0, .long 1, .ref mw, .long 0, .int 0, .int 0, .long 0, .long 0, .ref mq, .ref mz, .ref my, .int 0, .ref mb, .int 0, .int 0, .int 0, .int 0, .int 0, .ref mx, .ref mv])), (nw, .inl (cn, 350, .inl (fun _ => 0))), (mr, .inl (cm, 3, .inl (fun _ => 0)))] U.heap ∧ va_K (dC, dI) vwCl [(cn, .int), (cm, .int)] U ∧ va_D (fun _ => True) [(mo, .inr (12, [.ref nw, .ref kp, .ref ik, .ref mr, .long 0, .long 1, .ref mw, .long 0, .int 0, .int 0, .long 0, .long 0, .ref mq, .ref mz, .ref my, .int 0, .ref mb, .int 0, .int 0, .int 0, .int 0, .int 0, .ref mx, .ref mv])), (nw, .inl (cn, 350, .inl (fun _ => 0))), (mr, .inl (cm, 3, .inl (fun _ => 0)))])) (va_Qi (fun (r : Int32) (_ : Unit) => r = (-2)) (fun _ _ => True) (va_A [(mo, .inr (12, [.ref nw, .ref kp, .ref ik, .ref mr, .long 0, .long 1, .ref mw, .long 0, .int 0, .int 0, .long 0, .long 0, .ref mq, .ref mz, .ref my, .int 0, .ref mb, .int 0, .int 0, .int 0, .int 0, .int 0, .ref mx, .ref mv])), (nw, .inl (cn, 350, .inl (fun _ => 0))), (mr, .inl (cm, 3, .inl (fun _ => 0)))] sz)) 0 0 (va_A [(mo, .inr (12, [.ref nw, .ref kp, .ref ik, .ref mr, .long 0, .long 1, .ref mw, .long 0, .int 0, .int 0, .long 0, .long 0, .ref mq, .ref mz, .ref my, .int 0, .ref mb, .int 0, .int 0, .int 0, .int 0, .int 0, .ref mx, .ref mv])), (nw, .inl (cn, 350, .inl (fun _ => 0))), (mr, .inl (cm, 3, .inl (fun _ => 0)))] sz) := by
  refine Met.ofW (cc := cX12_back) (maxL := 3) (ret := (some .int)) (by decide) rfl ?_
  intro p e s m args below meth c s₁ B hml hv
  obtain ⟨rfl, hsz, hP, hK, hD0⟩ := hv
  have hx := B.exec
  have hb := B.bytes
  have hr := B.returns
  have hts := atoms_spec (ws := wsX12_back) B.pre
  have hown : s.vm.findClass RX12 = some m.cls := findClass_of_methodNamed B.named
  have hlocks := B.notSynchronized
  subst hsz
  have hD := hD0.self (sz := s.heap.size)
  generalize hAe : va_A [(mo, .inr (12, [.ref nw, .ref kp, .ref ik, .ref mr, .long 0, .long 1, .ref mw, .long 0, .int 0, .int 0, .long 0, .long 0, .ref mq, .ref mz, .ref my, .int 0, .ref mb, .int 0, .int 0, .int 0, .int 0, .int 0, .ref mx, .ref mv])), (nw, .inl (cn, 350, .inl (fun _ => 0))), (mr, .inl (cm, 3, .inl (fun _ => 0)))] s.heap.size = A at hD ⊢
  have hA : ∀ q : Nat, s.heap.size ≤ q → A q := fun q h => by rw [← hAe]; exact Or.inr h
  have hS : va_S A s.heap s.heap [] := va_S.rf
  have hP : va_P (dC, dI) vwCl [(mo, .inr (12, [.ref nw, .ref kp, .ref ik, .ref mr, .long 0, .long 1, .ref mw, .long 0, .int 0, .int 0, .long 0, .long 0, .ref mq, .ref mz, .ref my, .int 0, .ref mb, .int 0, .int 0, .int 0, .int 0, .int 0, .ref mx, .ref mv])), (nw, .inl (cn, 350, .inl (fun _ => 0))), (mr, .inl (cm, 3, .inl (fun _ => 0)))] s.heap := hP
  have hl := lv_entry ([.ref mo, .int na]) (n := 3) (Nat.le_of_ble_eq_true rfl)
  rw [lg_entry_eq]
  generalize (lg_sl ([.ref mo, .int na]) ++ List.replicate (3 - (lg_sl ([.ref mo, .int na])).length) Slot.unset).toArray = ls at hl ⊢
  have hl : lv_has ls 3 [(0, .ref mo), (1, .int na)] := hl
  refine lv_aload_n hx hb dX12_back_0 rfl (lv_at hl 0 rfl) ?_
  refine lv_iload_n hx hb dX12_back_1 rfl (lv_at hl 1 rfl) ?_
  have hPc_1 := hP.sub (ws' := [(mo, .inr (12, [.ref nw, .ref kp, .ref ik, .ref mr, .long 0, .long 1, .ref mw, .long 0, .int 0, .int 0, .long 0, .long 0, .ref mq, .ref mz, .ref my, .int 0, .ref mb, .int 0, .int 0, .int 0, .int 0, .int 0, .ref mx, .ref mv])), (nw, .inl (cn, 350, .inl (fun _ => 0)))]) [0, 1] rfl
  have hKc_2 := hK.sub (tys' := [(cn, .int)]) [0] rfl
  refine vp_callSi (va_Run.run (va_runV (As := [.int na]) (rest := []) ⟨hx, hb, hml, hown, hts⟩ (k_m_isCount l dC dI mo nw kp ik mr mw mq mz my mb mx mv cn na) (cwV 1 hts gX12_back_X12_isCount rfl rfl rfl (by decide +kernel) ⟨Nat.le_of_ble_eq_true rfl, Nat.le_of_ble_eq_true rfl⟩) ⟨fun a U g mk q => by obtain ⟨q0, qP, qK⟩ := q; exact ⟨q0, qP, va_K.moved (u := U) (U := U.calling g mk a) (Vm.Alike.refl U.vm) qK⟩, va_recv hK hP (ci := 12) (q0 := 0) rfl rfl, fun U hU hW => ⟨rfl, by rw [hU]; exact hPc_1, va_K.moved hW.alike hKc_2⟩⟩ rfl rfl hl.1 rfl (lv_room (Nat.le_of_ble_eq_true rfl)) dX12_back_2 ⟨Nat.le_of_ble_eq_true rfl, Nat.le_of_ble_eq_true rfl⟩)) (fun r_3 hw_4 => ?_)
  obtain rfl : 0 = r_3 := hw_4.symm
  refine lv_if_ne (tgt := 15) hx hb dX12_back_5 (by decide) (fun c_5 => ?_) (fun c_5 => ?_)
  · exact absurd c_5 (by decide)
  · refine lv_aload_n hx hb dX12_back_8 rfl (lv_at hl 0 rfl) ?_
    refine lv_bipush (v := (-2)) hx hb dX12_back_9 (by decide) ?_
    have hPc := hP.sub (ws' := [(mo, .inr (12, [.ref nw, .ref kp, .ref ik, .ref mr, .long 0, .long 1, .ref mw, .long 0, .int 0, .int 0, .long 0, .long 0, .ref mq, .ref mz, .ref my, .int 0, .ref mb, .int 0, .int 0, .int 0, .int 0, .int 0, .ref mx, .ref mv])), (mr, .inl (cm, 3, .inl (fun _ => 0)))]) [0, 2] rfl
    have hDc := hD.sub (ws' := [(mo, .inr (12, [.ref nw, .ref kp, .ref ik, .ref mr, .long 0, .long 1, .ref mw, .long 0, .int 0, .int 0, .long 0, .long 0, .ref mq, .ref mz, .ref my, .int 0, .ref mb, .int 0, .int 0, .int 0, .int 0, .int 0, .ref mx, .ref mv])), (mr, .inl (cm, 3, .inl (fun _ => 0)))]) [0, 2] (by decide) rfl
    have hKc := hK.sub (tys' := [(cm, .int)]) [1] rfl
    have hFc := va_free (wc := [(mo, .inr (12, [.ref nw, .ref kp, .ref ik, .ref mr, .long 0, .long 1, .ref mw, .long 0, .int 0, .int 0, .long 0, .long 0, .ref mq, .ref mz, .ref my, .int 0, .ref mb, .int 0, .int 0, .int 0, .int 0, .int 0, .ref mx, .ref mv])), (mr, .inl (cm, 3, .inl (fun _ => 0)))]) hD hS hA [0, 2] rfl
    refine va_calli (va_runV (As := [.int (-2)]) (rest := []) ⟨hx, hb, hml, hown, hts⟩ (k_bad l dC dI mo nw kp ik mr mw mq mz my mb mx mv cm (-2) s.heap.size) (cwV 1 hts gX12_back_X12_bad rfl rfl rfl (by decide +kernel) ⟨Nat.le_of_ble_eq_true rfl, Nat.le_of_ble_eq_true rfl⟩) ⟨fun a U g mk q => by obtain ⟨q0, q1, qP, qK, qD⟩ := q; exact ⟨q0, q1, qP, va_K.moved (u := U) (U := U.calling g mk a) (Vm.Alike.refl U.vm) qK, qD⟩, va_recv hK hP (ci := 12) (q0 := 0) rfl rfl, fun U hU hW => ⟨rfl, by rw [hU], by rw [hU]; exact hPc, va_K.moved hW.alike hKc, hDc.weaken (fun _ _ _ _ => trivial)⟩⟩ rfl rfl hl.1 rfl (lv_room (Nat.le_of_ble_eq_true rfl)) dX12_back_11 ⟨Nat.le_of_ble_eq_true rfl, Nat.le_of_ble_eq_true rfl⟩) hS (fun q _ h => hFc q h) hFc (fun r_6 u_ t H1 locs ht hvm hw_7 hB hz1 hk1 hS => ?_)
    obtain ⟨hP, hD⟩ := va_join (wr := [(nw, .inl (cn, 350, .inl (fun _ => 0)))]) (w1 := []) hP hD [0, 2] [1] rfl rfl (by decide) (by decide) hk1 hFc tz_P0 tz_D0
    generalize H1 = H at hP hS ⊢
    have hP : va_P (dC, dI) vwCl [(nw, .inl (cn, 350, .inl (fun _ => 0)))] H := hP
    have hD : va_D A [(nw, .inl (cn, 350, .inl (fun _ => 0)))] := hD
    obtain rfl : (-2) = r_6 := hw_7.symm
    exact W.iret (v := (-2)) hx hb hr (fun t ht hW => ⟨⟨(-2), (), rfl, rfl, trivial⟩, hS.F ht⟩) hS.2.2 dX12_back_14
set_option maxRecDepth 20000 in
theorem ggX12_of_X12_isCount : GoodIn wsX12_of wsX12_isCount := goodIn_r _ [6, 7, 8, 9, 5, 10, 20, 21, 22, 23, 24, 25, 26, 27, 28, 29, 30, 31, 32, 33, 34, 35, 36, 37, 38, 39, 40, 41, 42, 43] (by decide +kernel) (by decide +kernel)
set_option maxRecDepth 20000 in
theorem gX12_of_X12_isCount : GoodIn wsX12_of (wsV RX12 110 RX12 yX12_isCount wsX12_isCount) := goodIn_app (goodIn_of _ (by decide +kernel)) ggX12_of_X12_isCount
set_option maxRecDepth 20000 in
theorem ggX12_of_X12_bad : GoodIn wsX12_of wsX12_bad := goodIn_r _ [18, 19, 20, 21, 22, 23, 24, 25, 26, 27, 28, 29, 30, 31, 32, 33, 34, 35, 36, 37, 38, 39, 40, 41, 42, 43] (by decide +kernel) (by decide +kernel)
set_option maxRecDepth 20000 in
theorem gX12_of_X12_bad : GoodIn wsX12_of (wsV RX12 61 RX12 yX12_bad wsX12_bad) := goodIn_app (goodIn_of _ (by decide +kernel)) ggX12_of_X12_bad
theorem dX12_of_0 : decode cX12_of 0 = .ok (.aload_n 0, 1) := by decide +kernel
theorem dX12_of_1 : decode cX12_of 1 = .ok (.iload_n 1, 1) := by decide +kernel
theorem dX12_of_2 : decode cX12_of 2 = .ok (.invokevirtual 110, 3) := by decide +kernel
theorem dX12_of_5 : decode cX12_of 5 = .ok (.ifCond .eq 24, 3) := by decide +kernel
theorem dX12_of_29 : decode cX12_of 29 = .ok (.aload_n 0, 1) := by decide +kernel
theorem dX12_of_30 : decode cX12_of 30 = .ok (.bipush (-2), 2) := by decide +kernel
theorem dX12_of_32 : decode cX12_of 32 = .ok (.invokevirtual 61, 3) := by decide +kernel
theorem dX12_of_35 : decode cX12_of 35 = .ok (.ireturn, 1) := by decide +kernel
set_option maxHeartbeats 4000000 in
set_option maxRecDepth 100000 in
theorem k_m_of (l : Launch) (dC : Nat → ClassId) (dI : Nat → Nat → Nat) (mo : Nat) (nw : Nat) (kp : Nat) (ik : Nat) (mr : Nat) (mw : Nat) (mq : Nat) (mz : Nat) (my : Nat) (mb : Nat) (mx : Nat) (mv : Nat) (cn : ClassId) (cm : ClassId) (na : Int32) (nb : Int32) (sz : Nat) : Met l yX12_of wsX12_of ({ frames := 2, cells := 0, slots := 0, locals := 46 }) (va_Pc [.ref mo, .int na, .int nb] (fun U => U.heap.size = sz ∧ va_P (dC, dI) vwCl [(mo, .inr (12, [.ref nw, .ref kp, .ref ik, .ref mr, .long 0, .long 1, .ref mw, .long 0, .int 0, .int 0, .long 0, .long 0, .ref mq, .ref mz, .ref my, .int 0, .ref mb, .int 0, .int 0, .int 0, .int 0, .int 0, .ref mx, .ref mv])), (nw, .inl (cn, 350, .inl (fun _ => 0))), (mr, .inl (cm, 3, .inl (fun _ => 0)))] U.heap ∧ va_K (dC, dI) vwCl [(cn, .int), (cm, .int)] U ∧ va_D (fun _ => True) [(mo, .inr (12, [.ref nw, .ref kp, .ref ik, .ref mr, .long 0, .long 1, .ref mw, .long 0, .int 0, .int 0, .long 0, .long 0, .ref mq, .ref mz, .ref my, .int 0, .ref mb, .int 0, .int 0, .int 0, .int 0, .int 0, .ref mx, .ref mv])), (nw, .inl (cn, 350, .inl (fun _ => 0))), (mr, .inl (cm, 3, .inl (fun _ => 0)))])) (va_Qi (fun (r : Int32) (_ : Unit) => r = (-2)) (fun _ _ => True) (va_A [(mo, .inr (12, [.ref nw, .ref kp, .ref ik, .ref mr, .long 0, .long 1, .ref mw, .long 0, .int 0, .int 0, .long 0, .long 0, .ref mq, .ref mz, .ref my, .int 0, .ref mb, .int 0, .int 0, .int 0, .int 0, .int 0, .ref mx, .ref mv])), (nw, .inl (cn, 350, .inl (fun _ => 0))), (mr, .inl (cm, 3, .inl (fun _ => 0)))] sz)) 0 0 (va_A [(mo, .inr (12, [.ref nw, .ref kp, .ref ik, .ref mr, .long 0, .long 1, .ref mw, .long 0, .int 0, .int 0, .long 0, .long 0, .ref mq, .ref mz, .ref my, .int 0, .ref mb, .int 0, .int 0, .int 0, .int 0, .int 0, .ref mx, .ref mv])), (nw, .inl (cn, 350, .inl (fun _ => 0))), (mr, .inl (cm, 3, .inl (fun _ => 0)))] sz) := by
  refine Met.ofW (cc := cX12_of) (maxL := 3) (ret := (some .int)) (by decide) rfl ?_
  intro p e s m args below meth c s₁ B hml hv
  obtain ⟨rfl, hsz, hP, hK, hD0⟩ := hv
  have hx := B.exec
  have hb := B.bytes
  have hr := B.returns
  have hts := atoms_spec (ws := wsX12_of) B.pre
  have hown : s.vm.findClass RX12 = some m.cls := findClass_of_methodNamed B.named
  have hlocks := B.notSynchronized
  subst hsz
  have hD := hD0.self (sz := s.heap.size)
  generalize hAe : va_A [(mo, .inr (12, [.ref nw, .ref kp, .ref ik, .ref mr, .long 0, .long 1, .ref mw, .long 0, .int 0, .int 0, .long 0, .long 0, .ref mq, .ref mz, .ref my, .int 0, .ref mb, .int 0, .int 0, .int 0, .int 0, .int 0, .ref mx, .ref mv])), (nw, .inl (cn, 350, .inl (fun _ => 0))), (mr, .inl (cm, 3, .inl (fun _ => 0)))] s.heap.size = A at hD ⊢
  have hA : ∀ q : Nat, s.heap.size ≤ q → A q := fun q h => by rw [← hAe]; exact Or.inr h
  have hS : va_S A s.heap s.heap [] := va_S.rf
  have hP : va_P (dC, dI) vwCl [(mo, .inr (12, [.ref nw, .ref kp, .ref ik, .ref mr, .long 0, .long 1, .ref mw, .long 0, .int 0, .int 0, .long 0, .long 0, .ref mq, .ref mz, .ref my, .int 0, .ref mb, .int 0, .int 0, .int 0, .int 0, .int 0, .ref mx, .ref mv])), (nw, .inl (cn, 350, .inl (fun _ => 0))), (mr, .inl (cm, 3, .inl (fun _ => 0)))] s.heap := hP
  have hl := lv_entry ([.ref mo, .int na, .int nb]) (n := 3) (Nat.le_of_ble_eq_true rfl)
  rw [lg_entry_eq]
  generalize (lg_sl ([.ref mo, .int na, .int nb]) ++ List.replicate (3 - (lg_sl ([.ref mo, .int na, .int nb])).length) Slot.unset).toArray = ls at hl ⊢
  have hl : lv_has ls 3 [(0, .ref mo), (1, .int na), (2, .int nb)] := hl
  refine lv_aload_n hx hb dX12_of_0 rfl (lv_at hl 0 rfl) ?_
  refine lv_iload_n hx hb dX12_of_1 rfl (lv_at hl 1 rfl) ?_
  have hPc_1 := hP.sub (ws' := [(mo, .inr (12, [.ref nw, .ref kp, .ref ik, .ref mr, .long 0, .long 1, .ref mw, .long 0, .int 0, .int 0, .long 0, .long 0, .ref mq, .ref mz, .ref my, .int 0, .ref mb, .int 0, .int 0, .int 0, .int 0, .int 0, .ref mx, .ref mv])), (nw, .inl (cn, 350, .inl (fun _ => 0)))]) [0, 1] rfl
  have hKc_2 := hK.sub (tys' := [(cn, .int)]) [0] rfl
  refine vp_callSi (va_Run.run (va_runV (As := [.int na]) (rest := []) ⟨hx, hb, hml, hown, hts⟩ (k_m_isCount l dC dI mo nw kp ik mr mw mq mz my mb mx mv cn na) (cwV 1 hts gX12_of_X12_isCount rfl rfl rfl (by decide +kernel) ⟨Nat.le_of_ble_eq_true rfl, Nat.le_of_ble_eq_true rfl⟩) ⟨fun a U g mk q => by obtain ⟨q0, qP, qK⟩ := q; exact ⟨q0, qP, va_K.moved (u := U) (U := U.calling g mk a) (Vm.Alike.refl U.vm) qK⟩, va_recv hK hP (ci := 12) (q0 := 0) rfl rfl, fun U hU hW => ⟨rfl, by rw [hU]; exact hPc_1, va_K.moved hW.alike hKc_2⟩⟩ rfl rfl hl.1 rfl (lv_room (Nat.le_of_ble_eq_true rfl)) dX12_of_2 ⟨Nat.le_of_ble_eq_true rfl, Nat.le_of_ble_eq_true rfl⟩)) (fun r_3 hw_4 => ?_)
  obtain rfl : 0 = r_3 := hw_4.symm
  refine lv_if_eq (tgt := 29) hx hb dX12_of_5 (by decide) (fun c_5 => ?_) (fun c_5 => ?_)
  · refine lv_aload_n hx hb dX12_of_29 rfl (lv_at hl 0 rfl) ?_
    refine lv_bipush (v := (-2)) hx hb dX12_of_30 (by decide) ?_
    have hPc := hP.sub (ws' := [(mo, .inr (12, [.ref nw, .ref kp, .ref ik, .ref mr, .long 0, .long 1, .ref mw, .long 0, .int 0, .int 0, .long 0, .long 0, .ref mq, .ref mz, .ref my, .int 0, .ref mb, .int 0, .int 0, .int 0, .int 0, .int 0, .ref mx, .ref mv])), (mr, .inl (cm, 3, .inl (fun _ => 0)))]) [0, 2] rfl
    have hDc := hD.sub (ws' := [(mo, .inr (12, [.ref nw, .ref kp, .ref ik, .ref mr, .long 0, .long 1, .ref mw, .long 0, .int 0, .int 0, .long 0, .long 0, .ref mq, .ref mz, .ref my, .int 0, .ref mb, .int 0, .int 0, .int 0, .int 0, .int 0, .ref mx, .ref mv])), (mr, .inl (cm, 3, .inl (fun _ => 0)))]) [0, 2] (by decide) rfl
    have hKc := hK.sub (tys' := [(cm, .int)]) [1] rfl
    have hFc := va_free (wc := [(mo, .inr (12, [.ref nw, .ref kp, .ref ik, .ref mr, .long 0, .long 1, .ref mw, .long 0, .int 0, .int 0, .long 0, .long 0, .ref mq, .ref mz, .ref my, .int 0, .ref mb, .int 0, .int 0, .int 0, .int 0, .int 0, .ref mx, .ref mv])), (mr, .inl (cm, 3, .inl (fun _ => 0)))]) hD hS hA [0, 2] rfl
    refine va_calli (va_runV (As := [.int (-2)]) (rest := []) ⟨hx, hb, hml, hown, hts⟩ (k_bad l dC dI mo nw kp ik mr mw mq mz my mb mx mv cm (-2) s.heap.size) (cwV 1 hts gX12_of_X12_bad rfl rfl rfl (by decide +kernel) ⟨Nat.le_of_ble_eq_true rfl, Nat.le_of_ble_eq_true rfl⟩) ⟨fun a U g mk q => by obtain ⟨q0, q1, qP, qK, qD⟩ := q; exact ⟨q0, q1, qP, va_K.moved (u := U) (U := U.calling g mk a) (Vm.Alike.refl U.vm) qK, qD⟩, va_recv hK hP (ci := 12) (q0 := 0) rfl rfl, fun U hU hW => ⟨rfl, by rw [hU], by rw [hU]; exact hPc, va_K.moved hW.alike hKc, hDc.weaken (fun _ _ _ _ => trivial)⟩⟩ rfl rfl hl.1 rfl (lv_room (Nat.le_of_ble_eq_true rfl)) dX12_of_32 ⟨Nat.le_of_ble_eq_true rfl, Nat.le_of_ble_eq_true rfl⟩) hS (fun q _ h => hFc q h) hFc (fun r_6 u_ t H1 locs ht hvm hw_7 hB hz1 hk1 hS => ?_)
    obtain ⟨hP, hD⟩ := va_join (wr := [(nw, .inl (cn, 350, .inl (fun _ => 0)))]) (w1 := []) hP hD [0, 2] [1] rfl rfl (by decide) (by decide) hk1 hFc tz_P0 tz_D0
    generalize H1 = H at hP hS ⊢
    have hP : va_P (dC, dI) vwCl [(nw, .inl (cn, 350, .inl (fun _ => 0)))] H := hP
    have hD : va_D A [(nw, .inl (cn, 350, .inl (fun _ => 0)))] := hD
    obtain rfl : (-2) = r_6 := hw_7.symm
    exact W.iret (v := (-2)) hx hb hr (fun t ht hW => ⟨⟨(-2), (), rfl, rfl, trivial⟩, hS.F ht⟩) hS.2.2 dX12_of_35
  · exact absurd c_5 (by decide)
set_option maxRecDepth 20000 in
theorem ggX12_about_X12_isBundle : GoodIn wsX12_about wsX12_isBundle := goodIn_r _ [7, 2, 8, 9, 6, 10, 24, 25, 26, 27, 28, 29, 30, 31, 32, 33, 34, 35, 36, 37, 38, 39, 40, 41, 42, 43, 44, 45, 46, 47] (by decide +kernel) (by decide +kernel)
set_option maxRecDepth 20000 in
theorem gX12_about_X12_isBundle : GoodIn wsX12_about (wsV RX12 81 RX12 yX12_isBundle wsX12_isBundle) := goodIn_app (goodIn_of _ (by decide +kernel)) ggX12_about_X12_isBundle
set_option maxRecDepth 20000 in
theorem ggX12_about_X12_bad : GoodIn wsX12_about wsX12_bad := goodIn_r _ [14, 15, 24, 25, 26, 27, 28, 29, 30, 31, 32, 33, 34, 35, 36, 37, 38, 39, 40, 41, 42, 43, 44, 45, 46, 47] (by decide +kernel) (by decide +kernel)
set_option maxRecDepth 20000 in
theorem gX12_about_X12_bad : GoodIn wsX12_about (wsV RX12 61 RX12 yX12_bad wsX12_bad) := goodIn_app (goodIn_of _ (by decide +kernel)) ggX12_about_X12_bad
theorem dX12_about_0 : decode cX12_about 0 = .ok (.aload_n 0, 1) := by decide +kernel
theorem dX12_about_1 : decode cX12_about 1 = .ok (.iload_n 1, 1) := by decide +kernel
theorem dX12_about_2 : decode cX12_about 2 = .ok (.invokevirtual 81, 3) := by decide +kernel
theorem dX12_about_5 : decode cX12_about 5 = .ok (.ifCond .eq 15, 3) := by decide +kernel
theorem dX12_about_20 : decode cX12_about 20 = .ok (.aload_n 0, 1) := by decide +kernel
theorem dX12_about_21 : decode cX12_about 21 = .ok (.bipush (-10), 2) := by decide +kernel
theorem dX12_about_23 : decode cX12_about 23 = .ok (.invokevirtual 61, 3) := by decide +kernel
theorem dX12_about_26 : decode cX12_about 26 = .ok (.ireturn, 1) := by decide +kernel
set_option maxHeartbeats 4000000 in
set_option maxRecDepth 100000 in
theorem k_m_about (l : Launch) (dC : Nat → ClassId) (dI : Nat → Nat → Nat) (mo : Nat) (nw : Nat) (kp : Nat) (ik : Nat) (mr : Nat) (mw : Nat) (mq : Nat) (mz : Nat) (my : Nat) (mb : Nat) (mx : Nat) (mv : Nat) (cn : ClassId) (cm : ClassId) (na : Int32) (nb : Int32) (sz : Nat) : Met l yX12_about wsX12_about ({ frames := 2, cells := 0, slots := 0, locals := 46 }) (va_Pc [.ref mo, .int na, .int nb] (fun U => U.heap.size = sz ∧ va_P (dC, dI) vwCl [(mo, .inr (12, [.ref nw, .ref kp, .ref ik, .ref mr, .long 0, .long 1, .ref mw, .long 0, .int 0, .int 0, .long 0, .long 0, .ref mq, .ref mz, .ref my, .int 0, .ref mb, .int 0, .int 0, .int 0, .int 0, .int 0, .ref mx, .ref mv])), (nw, .inl (cn, 350, .inl (fun _ => 0))), (mr, .inl (cm, 3, .inl (fun _ => 0)))] U.heap ∧ va_K (dC, dI) vwCl [(cn, .int), (cm, .int)] U ∧ va_D (fun _ => True) [(mo, .inr (12, [.ref nw, .ref kp, .ref ik, .ref mr, .long 0, .long 1, .ref mw, .long 0, .int 0, .int 0, .long 0, .long 0, .ref mq, .ref mz, .ref my, .int 0, .ref mb, .int 0, .int 0, .int 0, .int 0, .int 0, .ref mx, .ref mv])), (nw, .inl (cn, 350, .inl (fun _ => 0))), (mr, .inl (cm, 3, .inl (fun _ => 0)))])) (va_Qi (fun (r : Int32) (_ : Unit) => r = (-10)) (fun _ _ => True) (va_A [(mo, .inr (12, [.ref nw, .ref kp, .ref ik, .ref mr, .long 0, .long 1, .ref mw, .long 0, .int 0, .int 0, .long 0, .long 0, .ref mq, .ref mz, .ref my, .int 0, .ref mb, .int 0, .int 0, .int 0, .int 0, .int 0, .ref mx, .ref mv])), (nw, .inl (cn, 350, .inl (fun _ => 0))), (mr, .inl (cm, 3, .inl (fun _ => 0)))] sz)) 0 0 (va_A [(mo, .inr (12, [.ref nw, .ref kp, .ref ik, .ref mr, .long 0, .long 1, .ref mw, .long 0, .int 0, .int 0, .long 0, .long 0, .ref mq, .ref mz, .ref my, .int 0, .ref mb, .int 0, .int 0, .int 0, .int 0, .int 0, .ref mx, .ref mv])), (nw, .inl (cn, 350, .inl (fun _ => 0))), (mr, .inl (cm, 3, .inl (fun _ => 0)))] sz) := by
  refine Met.ofW (cc := cX12_about) (maxL := 5) (ret := (some .int)) (by decide) rfl ?_
  intro p e s m args below meth c s₁ B hml hv
  obtain ⟨rfl, hsz, hP, hK, hD0⟩ := hv
  have hx := B.exec
  have hb := B.bytes
  have hr := B.returns
  have hts := atoms_spec (ws := wsX12_about) B.pre
  have hown : s.vm.findClass RX12 = some m.cls := findClass_of_methodNamed B.named
  have hlocks := B.notSynchronized
  subst hsz
  have hD := hD0.self (sz := s.heap.size)
  generalize hAe : va_A [(mo, .inr (12, [.ref nw, .ref kp, .ref ik, .ref mr, .long 0, .long 1, .ref mw, .long 0, .int 0, .int 0, .long 0, .long 0, .ref mq, .ref mz, .ref my, .int 0, .ref mb, .int 0, .int 0, .int 0, .int 0, .int 0, .ref mx, .ref mv])), (nw, .inl (cn, 350, .inl (fun _ => 0))), (mr, .inl (cm, 3, .inl (fun _ => 0)))] s.heap.size = A at hD ⊢
  have hA : ∀ q : Nat, s.heap.size ≤ q → A q := fun q h => by rw [← hAe]; exact Or.inr h
  have hS : va_S A s.heap s.heap [] := va_S.rf
  have hP : va_P (dC, dI) vwCl [(mo, .inr (12, [.ref nw, .ref kp, .ref ik, .ref mr, .long 0, .long 1, .ref mw, .long 0, .int 0, .int 0, .long 0, .long 0, .ref mq, .ref mz, .ref my, .int 0, .ref mb, .int 0, .int 0, .int 0, .int 0, .int 0, .ref mx, .ref mv])), (nw, .inl (cn, 350, .inl (fun _ => 0))), (mr, .inl (cm, 3, .inl (fun _ => 0)))] s.heap := hP
  have hl := lv_entry ([.ref mo, .int na, .int nb]) (n := 5) (Nat.le_of_ble_eq_true rfl)
  rw [lg_entry_eq]
  generalize (lg_sl ([.ref mo, .int na, .int nb]) ++ List.replicate (5 - (lg_sl ([.ref mo, .int na, .int nb])).length) Slot.unset).toArray = ls at hl ⊢
  have hl : lv_has ls 5 [(0, .ref mo), (1, .int na), (2, .int nb)] := hl
  refine lv_aload_n hx hb dX12_about_0 rfl (lv_at hl 0 rfl) ?_
  refine lv_iload_n hx hb dX12_about_1 rfl (lv_at hl 1 rfl) ?_
  have hPc_1 := hP.sub (ws' := [(mo, .inr (12, [.ref nw, .ref kp, .ref ik, .ref mr, .long 0, .long 1, .ref mw, .long 0, .int 0, .int 0, .long 0, .long 0, .ref mq, .ref mz, .ref my, .int 0, .ref mb, .int 0, .int 0, .int 0, .int 0, .int 0, .ref mx, .ref mv])), (nw, .inl (cn, 350, .inl (fun _ => 0)))]) [0, 1] rfl
  have hKc_2 := hK.sub (tys' := [(cn, .int)]) [0] rfl
  refine vp_callSi (va_Run.run (va_runV (As := [.int na]) (rest := []) ⟨hx, hb, hml, hown, hts⟩ (k_m_isBundle l dC dI mo nw kp ik mr mw mq mz my mb mx mv cn na) (cwV 1 hts gX12_about_X12_isBundle rfl rfl rfl (by decide +kernel) ⟨Nat.le_of_ble_eq_true rfl, Nat.le_of_ble_eq_true rfl⟩) ⟨fun a U g mk q => by obtain ⟨q0, qP, qK⟩ := q; exact ⟨q0, qP, va_K.moved (u := U) (U := U.calling g mk a) (Vm.Alike.refl U.vm) qK⟩, va_recv hK hP (ci := 12) (q0 := 0) rfl rfl, fun U hU hW => ⟨rfl, by rw [hU]; exact hPc_1, va_K.moved hW.alike hKc_2⟩⟩ rfl rfl hl.1 rfl (lv_room (Nat.le_of_ble_eq_true rfl)) dX12_about_2 ⟨Nat.le_of_ble_eq_true rfl, Nat.le_of_ble_eq_true rfl⟩)) (fun r_3 hw_4 => ?_)
  obtain rfl : 0 = r_3 := hw_4.symm
  refine lv_if_eq (tgt := 20) hx hb dX12_about_5 (by decide) (fun c_5 => ?_) (fun c_5 => ?_)
  · refine lv_aload_n hx hb dX12_about_20 rfl (lv_at hl 0 rfl) ?_
    refine lv_bipush (v := (-10)) hx hb dX12_about_21 (by decide) ?_
    have hPc := hP.sub (ws' := [(mo, .inr (12, [.ref nw, .ref kp, .ref ik, .ref mr, .long 0, .long 1, .ref mw, .long 0, .int 0, .int 0, .long 0, .long 0, .ref mq, .ref mz, .ref my, .int 0, .ref mb, .int 0, .int 0, .int 0, .int 0, .int 0, .ref mx, .ref mv])), (mr, .inl (cm, 3, .inl (fun _ => 0)))]) [0, 2] rfl
    have hDc := hD.sub (ws' := [(mo, .inr (12, [.ref nw, .ref kp, .ref ik, .ref mr, .long 0, .long 1, .ref mw, .long 0, .int 0, .int 0, .long 0, .long 0, .ref mq, .ref mz, .ref my, .int 0, .ref mb, .int 0, .int 0, .int 0, .int 0, .int 0, .ref mx, .ref mv])), (mr, .inl (cm, 3, .inl (fun _ => 0)))]) [0, 2] (by decide) rfl
    have hKc := hK.sub (tys' := [(cm, .int)]) [1] rfl
    have hFc := va_free (wc := [(mo, .inr (12, [.ref nw, .ref kp, .ref ik, .ref mr, .long 0, .long 1, .ref mw, .long 0, .int 0, .int 0, .long 0, .long 0, .ref mq, .ref mz, .ref my, .int 0, .ref mb, .int 0, .int 0, .int 0, .int 0, .int 0, .ref mx, .ref mv])), (mr, .inl (cm, 3, .inl (fun _ => 0)))]) hD hS hA [0, 2] rfl
    refine va_calli (va_runV (As := [.int (-10)]) (rest := []) ⟨hx, hb, hml, hown, hts⟩ (k_bad l dC dI mo nw kp ik mr mw mq mz my mb mx mv cm (-10) s.heap.size) (cwV 1 hts gX12_about_X12_bad rfl rfl rfl (by decide +kernel) ⟨Nat.le_of_ble_eq_true rfl, Nat.le_of_ble_eq_true rfl⟩) ⟨fun a U g mk q => by obtain ⟨q0, q1, qP, qK, qD⟩ := q; exact ⟨q0, q1, qP, va_K.moved (u := U) (U := U.calling g mk a) (Vm.Alike.refl U.vm) qK, qD⟩, va_recv hK hP (ci := 12) (q0 := 0) rfl rfl, fun U hU hW => ⟨rfl, by rw [hU], by rw [hU]; exact hPc, va_K.moved hW.alike hKc, hDc.weaken (fun _ _ _ _ => trivial)⟩⟩ rfl rfl hl.1 rfl (lv_room (Nat.le_of_ble_eq_true rfl)) dX12_about_23 ⟨Nat.le_of_ble_eq_true rfl, Nat.le_of_ble_eq_true rfl⟩) hS (fun q _ h => hFc q h) hFc (fun r_6 u_ t H1 locs ht hvm hw_7 hB hz1 hk1 hS => ?_)
    obtain ⟨hP, hD⟩ := va_join (wr := [(nw, .inl (cn, 350, .inl (fun _ => 0)))]) (w1 := []) hP hD [0, 2] [1] rfl rfl (by decide) (by decide) hk1 hFc tz_P0 tz_D0
    generalize H1 = H at hP hS ⊢
    have hP : va_P (dC, dI) vwCl [(nw, .inl (cn, 350, .inl (fun _ => 0)))] H := hP
    have hD : va_D A [(nw, .inl (cn, 350, .inl (fun _ => 0)))] := hD
    obtain rfl : (-10) = r_6 := hw_7.symm
    exact W.iret (v := (-10)) hx hb hr (fun t ht hW => ⟨⟨(-10), (), rfl, rfl, trivial⟩, hS.F ht⟩) hS.2.2 dX12_about_26
  · exact absurd c_5 (by decide)
set_option maxRecDepth 20000 in
theorem ggX12_likely_X12_isBundle : GoodIn wsX12_likely wsX12_isBundle := goodIn_r _ [9, 10, 11, 12, 8, 13, 61, 62, 63, 64, 65, 66, 67, 68, 69, 70, 71, 72, 73, 74, 75, 76, 77, 78, 79, 80, 81, 82, 83, 84] (by decide +kernel) (by decide +kernel)
set_option maxRecDepth 20000 in
theorem gX12_likely_X12_isBundle : GoodIn wsX12_likely (wsV RX12 81 RX12 yX12_isBundle wsX12_isBundle) := goodIn_app (goodIn_of _ (by decide +kernel)) ggX12_likely_X12_isBundle
set_option maxRecDepth 20000 in
theorem ggX12_likely_X12_bad : GoodIn wsX12_likely wsX12_bad := goodIn_r _ [17, 18, 61, 62, 63, 64, 65, 66, 67, 68, 69, 70, 71, 72, 73, 74, 75, 76, 77, 78, 79, 80, 81, 82, 83, 84] (by decide +kernel) (by decide +kernel)
set_option maxRecDepth 20000 in
theorem gX12_likely_X12_bad : GoodIn wsX12_likely (wsV RX12 61 RX12 yX12_bad wsX12_bad) := goodIn_app (goodIn_of _ (by decide +kernel)) ggX12_likely_X12_bad
theorem dX12_likely_0 : decode cX12_likely 0 = .ok (.aload_n 0, 1) := by decide +kernel
theorem dX12_likely_1 : decode cX12_likely 1 = .ok (.iload_n 1, 1) := by decide +kernel
theorem dX12_likely_2 : decode cX12_likely 2 = .ok (.invokevirtual 81, 3) := by decide +kernel
theorem dX12_likely_5 : decode cX12_likely 5 = .ok (.ifCond .eq 17, 3) := by decide +kernel
theorem dX12_likely_22 : decode cX12_likely 22 = .ok (.aload_n 0, 1) := by decide +kernel
theorem dX12_likely_23 : decode cX12_likely 23 = .ok (.bipush (-2), 2) := by decide +kernel
theorem dX12_likely_25 : decode cX12_likely 25 = .ok (.invokevirtual 61, 3) := by decide +kernel
theorem dX12_likely_28 : decode cX12_likely 28 = .ok (.ireturn, 1) := by decide +kernel
set_option maxHeartbeats 4000000 in
set_option maxRecDepth 100000 in
theorem k_m_likely (l : Launch) (dC : Nat → ClassId) (dI : Nat → Nat → Nat) (mo : Nat) (nw : Nat) (kp : Nat) (ik : Nat) (mr : Nat) (mw : Nat) (mq : Nat) (mz : Nat) (my : Nat) (mb : Nat) (mx : Nat) (mv : Nat) (cn : ClassId) (cm : ClassId) (na : Int32) (nb : Int32) (sz : Nat) : Met l yX12_likely wsX12_likely ({ frames := 2, cells := 0, slots := 0, locals := 46 }) (va_Pc [.ref mo, .int na, .int nb] (fun U => U.heap.size = sz ∧ va_P (dC, dI) vwCl [(mo, .inr (12, [.ref nw, .ref kp, .ref ik, .ref mr, .long 0, .long 1, .ref mw, .long 0, .int 0, .int 0, .long 0, .long 0, .ref mq, .ref mz, .ref my, .int 0, .ref mb, .int 0, .int 0, .int 0, .int 0, .int 0, .ref mx, .ref mv])), (nw, .inl (cn, 350, .inl (fun _ => 0))), (mr, .inl (cm, 3, .inl (fun _ => 0)))] U.heap ∧ va_K (dC, dI) vwCl [(cn, .int), (cm, .int)] U ∧ va_D (fun _ => True) [(mo, .inr (12, [.ref nw, .ref kp, .ref ik, .ref mr, .long 0, .long 1, .ref mw, .long 0, .int 0, .int 0, .long 0, .long 0, .ref mq, .ref mz, .ref my, .int 0, .ref mb, .int 0, .int 0, .int 0, .int 0, .int 0, .ref mx, .ref mv])), (nw, .inl (cn, 350, .inl (fun _ => 0))), (mr, .inl (cm, 3, .inl (fun _ => 0)))])) (va_Qi (fun (r : Int32) (_ : Unit) => r = (-2)) (fun _ _ => True) (va_A [(mo, .inr (12, [.ref nw, .ref kp, .ref ik, .ref mr, .long 0, .long 1, .ref mw, .long 0, .int 0, .int 0, .long 0, .long 0, .ref mq, .ref mz, .ref my, .int 0, .ref mb, .int 0, .int 0, .int 0, .int 0, .int 0, .ref mx, .ref mv])), (nw, .inl (cn, 350, .inl (fun _ => 0))), (mr, .inl (cm, 3, .inl (fun _ => 0)))] sz)) 0 0 (va_A [(mo, .inr (12, [.ref nw, .ref kp, .ref ik, .ref mr, .long 0, .long 1, .ref mw, .long 0, .int 0, .int 0, .long 0, .long 0, .ref mq, .ref mz, .ref my, .int 0, .ref mb, .int 0, .int 0, .int 0, .int 0, .int 0, .ref mx, .ref mv])), (nw, .inl (cn, 350, .inl (fun _ => 0))), (mr, .inl (cm, 3, .inl (fun _ => 0)))] sz) := by
  refine Met.ofW (cc := cX12_likely) (maxL := 3) (ret := (some .int)) (by decide) rfl ?_
  intro p e s m args below meth c s₁ B hml hv
  obtain ⟨rfl, hsz, hP, hK, hD0⟩ := hv
  have hx := B.exec
  have hb := B.bytes
  have hr := B.returns
  have hts := atoms_spec (ws := wsX12_likely) B.pre
  have hown : s.vm.findClass RX12 = some m.cls := findClass_of_methodNamed B.named
  have hlocks := B.notSynchronized
  subst hsz
  have hD := hD0.self (sz := s.heap.size)
  generalize hAe : va_A [(mo, .inr (12, [.ref nw, .ref kp, .ref ik, .ref mr, .long 0, .long 1, .ref mw, .long 0, .int 0, .int 0, .long 0, .long 0, .ref mq, .ref mz, .ref my, .int 0, .ref mb, .int 0, .int 0, .int 0, .int 0, .int 0, .ref mx, .ref mv])), (nw, .inl (cn, 350, .inl (fun _ => 0))), (mr, .inl (cm, 3, .inl (fun _ => 0)))] s.heap.size = A at hD ⊢
  have hA : ∀ q : Nat, s.heap.size ≤ q → A q := fun q h => by rw [← hAe]; exact Or.inr h
  have hS : va_S A s.heap s.heap [] := va_S.rf
  have hP : va_P (dC, dI) vwCl [(mo, .inr (12, [.ref nw, .ref kp, .ref ik, .ref mr, .long 0, .long 1, .ref mw, .long 0, .int 0, .int 0, .long 0, .long 0, .ref mq, .ref mz, .ref my, .int 0, .ref mb, .int 0, .int 0, .int 0, .int 0, .int 0, .ref mx, .ref mv])), (nw, .inl (cn, 350, .inl (fun _ => 0))), (mr, .inl (cm, 3, .inl (fun _ => 0)))] s.heap := hP
  have hl := lv_entry ([.ref mo, .int na, .int nb]) (n := 3) (Nat.le_of_ble_eq_true rfl)
  rw [lg_entry_eq]
  generalize (lg_sl ([.ref mo, .int na, .int nb]) ++ List.replicate (3 - (lg_sl ([.ref mo, .int na, .int nb])).length) Slot.unset).toArray = ls at hl ⊢
  have hl : lv_has ls 3 [(0, .ref mo), (1, .int na), (2, .int nb)] := hl
  refine lv_aload_n hx hb dX12_likely_0 rfl (lv_at hl 0 rfl) ?_
  refine lv_iload_n hx hb dX12_likely_1 rfl (lv_at hl 1 rfl) ?_
  have hPc_1 := hP.sub (ws' := [(mo, .inr (12, [.ref nw, .ref kp, .ref ik, .ref mr, .long 0, .long 1, .ref mw, .long 0, .int 0, .int 0, .long 0, .long 0, .ref mq, .ref mz, .ref my, .int 0, .ref mb, .int 0, .int 0, .int 0, .int 0, .int 0, .ref mx, .ref mv])), (nw, .inl (cn, 350, .inl (fun _ => 0)))]) [0, 1] rfl
  have hKc_2 := hK.sub (tys' := [(cn, .int)]) [0] rfl
  refine vp_callSi (va_Run.run (va_runV (As := [.int na]) (rest := []) ⟨hx, hb, hml, hown, hts⟩ (k_m_isBundle l dC dI mo nw kp ik mr mw mq mz my mb mx mv cn na) (cwV 1 hts gX12_likely_X12_isBundle rfl rfl rfl (by decide +kernel) ⟨Nat.le_of_ble_eq_true rfl, Nat.le_of_ble_eq_true rfl⟩) ⟨fun a U g mk q => by obtain ⟨q0, qP, qK⟩ := q; exact ⟨q0, qP, va_K.moved (u := U) (U := U.calling g mk a) (Vm.Alike.refl U.vm) qK⟩, va_recv hK hP (ci := 12) (q0 := 0) rfl rfl, fun U hU hW => ⟨rfl, by rw [hU]; exact hPc_1, va_K.moved hW.alike hKc_2⟩⟩ rfl rfl hl.1 rfl (lv_room (Nat.le_of_ble_eq_true rfl)) dX12_likely_2 ⟨Nat.le_of_ble_eq_true rfl, Nat.le_of_ble_eq_true rfl⟩)) (fun r_3 hw_4 => ?_)
  obtain rfl : 0 = r_3 := hw_4.symm
  refine lv_if_eq (tgt := 22) hx hb dX12_likely_5 (by decide) (fun c_5 => ?_) (fun c_5 => ?_)
  · refine lv_aload_n hx hb dX12_likely_22 rfl (lv_at hl 0 rfl) ?_
    refine lv_bipush (v := (-2)) hx hb dX12_likely_23 (by decide) ?_
    have hPc := hP.sub (ws' := [(mo, .inr (12, [.ref nw, .ref kp, .ref ik, .ref mr, .long 0, .long 1, .ref mw, .long 0, .int 0, .int 0, .long 0, .long 0, .ref mq, .ref mz, .ref my, .int 0, .ref mb, .int 0, .int 0, .int 0, .int 0, .int 0, .ref mx, .ref mv])), (mr, .inl (cm, 3, .inl (fun _ => 0)))]) [0, 2] rfl
    have hDc := hD.sub (ws' := [(mo, .inr (12, [.ref nw, .ref kp, .ref ik, .ref mr, .long 0, .long 1, .ref mw, .long 0, .int 0, .int 0, .long 0, .long 0, .ref mq, .ref mz, .ref my, .int 0, .ref mb, .int 0, .int 0, .int 0, .int 0, .int 0, .ref mx, .ref mv])), (mr, .inl (cm, 3, .inl (fun _ => 0)))]) [0, 2] (by decide) rfl
    have hKc := hK.sub (tys' := [(cm, .int)]) [1] rfl
    have hFc := va_free (wc := [(mo, .inr (12, [.ref nw, .ref kp, .ref ik, .ref mr, .long 0, .long 1, .ref mw, .long 0, .int 0, .int 0, .long 0, .long 0, .ref mq, .ref mz, .ref my, .int 0, .ref mb, .int 0, .int 0, .int 0, .int 0, .int 0, .ref mx, .ref mv])), (mr, .inl (cm, 3, .inl (fun _ => 0)))]) hD hS hA [0, 2] rfl
    refine va_calli (va_runV (As := [.int (-2)]) (rest := []) ⟨hx, hb, hml, hown, hts⟩ (k_bad l dC dI mo nw kp ik mr mw mq mz my mb mx mv cm (-2) s.heap.size) (cwV 1 hts gX12_likely_X12_bad rfl rfl rfl (by decide +kernel) ⟨Nat.le_of_ble_eq_true rfl, Nat.le_of_ble_eq_true rfl⟩) ⟨fun a U g mk q => by obtain ⟨q0, q1, qP, qK, qD⟩ := q; exact ⟨q0, q1, qP, va_K.moved (u := U) (U := U.calling g mk a) (Vm.Alike.refl U.vm) qK, qD⟩, va_recv hK hP (ci := 12) (q0 := 0) rfl rfl, fun U hU hW => ⟨rfl, by rw [hU], by rw [hU]; exact hPc, va_K.moved hW.alike hKc, hDc.weaken (fun _ _ _ _ => trivial)⟩⟩ rfl rfl hl.1 rfl (lv_room (Nat.le_of_ble_eq_true rfl)) dX12_likely_25 ⟨Nat.le_of_ble_eq_true rfl, Nat.le_of_ble_eq_true rfl⟩) hS (fun q _ h => hFc q h) hFc (fun r_6 u_ t H1 locs ht hvm hw_7 hB hz1 hk1 hS => ?_)
    obtain ⟨hP, hD⟩ := va_join (wr := [(nw, .inl (cn, 350, .inl (fun _ => 0)))]) (w1 := []) hP hD [0, 2] [1] rfl rfl (by decide) (by decide) hk1 hFc tz_P0 tz_D0
    generalize H1 = H at hP hS ⊢
    have hP : va_P (dC, dI) vwCl [(nw, .inl (cn, 350, .inl (fun _ => 0)))] H := hP
    have hD : va_D A [(nw, .inl (cn, 350, .inl (fun _ => 0)))] := hD
    obtain rfl : (-2) = r_6 := hw_7.symm
    exact W.iret (v := (-2)) hx hb hr (fun t ht hW => ⟨⟨(-2), (), rfl, rfl, trivial⟩, hS.F ht⟩) hS.2.2 dX12_likely_28
  · exact absurd c_5 (by decide)
set_option maxRecDepth 20000 in
theorem ggX12_truly_X12_isBundle : GoodIn wsX12_truly wsX12_isBundle := goodIn_r _ [7, 8, 9, 10, 6, 11, 49, 50, 51, 52, 53, 54, 55, 56, 57, 58, 59, 60, 61, 62, 63, 64, 65, 66, 67, 68, 69, 70, 71, 72] (by decide +kernel) (by decide +kernel)
set_option maxRecDepth 20000 in
theorem gX12_truly_X12_isBundle : GoodIn wsX12_truly (wsV RX12 81 RX12 yX12_isBundle wsX12_isBundle) := goodIn_app (goodIn_of _ (by decide +kernel)) ggX12_truly_X12_isBundle
set_option maxRecDepth 20000 in
theorem ggX12_truly_X12_bad : GoodIn wsX12_truly wsX12_bad := goodIn_r _ [15, 16, 49, 50, 51, 52, 53, 54, 55, 56, 57, 58, 59, 60, 61, 62, 63, 64, 65, 66, 67, 68, 69, 70, 71, 72] (by decide +kernel) (by decide +kernel)
set_option maxRecDepth 20000 in
theorem gX12_truly_X12_bad : GoodIn wsX12_truly (wsV RX12 61 RX12 yX12_bad wsX12_bad) := goodIn_app (goodIn_of _ (by decide +kernel)) ggX12_truly_X12_bad
theorem dX12_truly_0 : decode cX12_truly 0 = .ok (.aload_n 0, 1) := by decide +kernel
theorem dX12_truly_1 : decode cX12_truly 1 = .ok (.iload_n 1, 1) := by decide +kernel
theorem dX12_truly_2 : decode cX12_truly 2 = .ok (.invokevirtual 81, 3) := by decide +kernel
theorem dX12_truly_5 : decode cX12_truly 5 = .ok (.ifCond .eq 13, 3) := by decide +kernel
theorem dX12_truly_18 : decode cX12_truly 18 = .ok (.aload_n 0, 1) := by decide +kernel
theorem dX12_truly_19 : decode cX12_truly 19 = .ok (.bipush (-2), 2) := by decide +kernel
theorem dX12_truly_21 : decode cX12_truly 21 = .ok (.invokevirtual 61, 3) := by decide +kernel
theorem dX12_truly_24 : decode cX12_truly 24 = .ok (.ireturn, 1) := by decide +kernel
set_option maxHeartbeats 4000000 in
set_option maxRecDepth 100000 in
theorem k_m_truly (l : Launch) (dC : Nat → ClassId) (dI : Nat → Nat → Nat) (mo : Nat) (nw : Nat) (kp : Nat) (ik : Nat) (mr : Nat) (mw : Nat) (mq : Nat) (mz : Nat) (my : Nat) (mb : Nat) (mx : Nat) (mv : Nat) (cn : ClassId) (cm : ClassId) (na : Int32) (nb : Int32) (sz : Nat) : Met l yX12_truly wsX12_truly ({ frames := 2, cells := 0, slots := 0, locals := 46 }) (va_Pc [.ref mo, .int na, .int nb] (fun U => U.heap.size = sz ∧ va_P (dC, dI) vwCl [(mo, .inr (12, [.ref nw, .ref kp, .ref ik, .ref mr, .long 0, .long 1, .ref mw, .long 0, .int 0, .int 0, .long 0, .long 0, .ref mq, .ref mz, .ref my, .int 0, .ref mb, .int 0, .int 0, .int 0, .int 0, .int 0, .ref mx, .ref mv])), (nw, .inl (cn, 350, .inl (fun _ => 0))), (mr, .inl (cm, 3, .inl (fun _ => 0)))] U.heap ∧ va_K (dC, dI) vwCl [(cn, .int), (cm, .int)] U ∧ va_D (fun _ => True) [(mo, .inr (12, [.ref nw, .ref kp, .ref ik, .ref mr, .long 0, .long 1, .ref mw, .long 0, .int 0, .int 0, .long 0, .long 0, .ref mq, .ref mz, .ref my, .int 0, .ref mb, .int 0, .int 0, .int 0, .int 0, .int 0, .ref mx, .ref mv])), (nw, .inl (cn, 350, .inl (fun _ => 0))), (mr, .inl (cm, 3, .inl (fun _ => 0)))])) (va_Qi (fun (r : Int32) (_ : Unit) => r = (-2)) (fun _ _ => True) (va_A [(mo, .inr (12, [.ref nw, .ref kp, .ref ik, .ref mr, .long 0, .long 1, .ref mw, .long 0, .int 0, .int 0, .long 0, .long 0, .ref mq, .ref mz, .ref my, .int 0, .ref mb, .int 0, .int 0, .int 0, .int 0, .int 0, .ref mx, .ref mv])), (nw, .inl (cn, 350, .inl (fun _ => 0))), (mr, .inl (cm, 3, .inl (fun _ => 0)))] sz)) 0 0 (va_A [(mo, .inr (12, [.ref nw, .ref kp, .ref ik, .ref mr, .long 0, .long 1, .ref mw, .long 0, .int 0, .int 0, .long 0, .long 0, .ref mq, .ref mz, .ref my, .int 0, .ref mb, .int 0, .int 0, .int 0, .int 0, .int 0, .ref mx, .ref mv])), (nw, .inl (cn, 350, .inl (fun _ => 0))), (mr, .inl (cm, 3, .inl (fun _ => 0)))] sz) := by
  refine Met.ofW (cc := cX12_truly) (maxL := 3) (ret := (some .int)) (by decide) rfl ?_
  intro p e s m args below meth c s₁ B hml hv
  obtain ⟨rfl, hsz, hP, hK, hD0⟩ := hv
  have hx := B.exec
  have hb := B.bytes
  have hr := B.returns
  have hts := atoms_spec (ws := wsX12_truly) B.pre
  have hown : s.vm.findClass RX12 = some m.cls := findClass_of_methodNamed B.named
  have hlocks := B.notSynchronized
  subst hsz
  have hD := hD0.self (sz := s.heap.size)
  generalize hAe : va_A [(mo, .inr (12, [.ref nw, .ref kp, .ref ik, .ref mr, .long 0, .long 1, .ref mw, .long 0, .int 0, .int 0, .long 0, .long 0, .ref mq, .ref mz, .ref my, .int 0, .ref mb, .int 0, .int 0, .int 0, .int 0, .int 0, .ref mx, .ref mv])), (nw, .inl (cn, 350, .inl (fun _ => 0))), (mr, .inl (cm, 3, .inl (fun _ => 0)))] s.heap.size = A at hD ⊢
  have hA : ∀ q : Nat, s.heap.size ≤ q → A q := fun q h => by rw [← hAe]; exact Or.inr h
  have hS : va_S A s.heap s.heap [] := va_S.rf
  have hP : va_P (dC, dI) vwCl [(mo, .inr (12, [.ref nw, .ref kp, .ref ik, .ref mr, .long 0, .long 1, .ref mw, .long 0, .int 0, .int 0, .long 0, .long 0, .ref mq, .ref mz, .ref my, .int 0, .ref mb, .int 0, .int 0, .int 0, .int 0, .int 0, .ref mx, .ref mv])), (nw, .inl (cn, 350, .inl (fun _ => 0))), (mr, .inl (cm, 3, .inl (fun _ => 0)))] s.heap := hP
  have hl := lv_entry ([.ref mo, .int na, .int nb]) (n := 3) (Nat.le_of_ble_eq_true rfl)
  rw [lg_entry_eq]
  generalize (lg_sl ([.ref mo, .int na, .int nb]) ++ List.replicate (3 - (lg_sl ([.ref mo, .int na, .int nb])).length) Slot.unset).toArray = ls at hl ⊢
  have hl : lv_has ls 3 [(0, .ref mo), (1, .int na), (2, .int nb)] := hl
  refine lv_aload_n hx hb dX12_truly_0 rfl (lv_at hl 0 rfl) ?_
  refine lv_iload_n hx hb dX12_truly_1 rfl (lv_at hl 1 rfl) ?_
  have hPc_1 := hP.sub (ws' := [(mo, .inr (12, [.ref nw, .ref kp, .ref ik, .ref mr, .long 0, .long 1, .ref mw, .long 0, .int 0, .int 0, .long 0, .long 0, .ref mq, .ref mz, .ref my, .int 0, .ref mb, .int 0, .int 0, .int 0, .int 0, .int 0, .ref mx, .ref mv])), (nw, .inl (cn, 350, .inl (fun _ => 0)))]) [0, 1] rfl
  have hKc_2 := hK.sub (tys' := [(cn, .int)]) [0] rfl
  refine vp_callSi (va_Run.run (va_runV (As := [.int na]) (rest := []) ⟨hx, hb, hml, hown, hts⟩ (k_m_isBundle l dC dI mo nw kp ik mr mw mq mz my mb mx mv cn na) (cwV 1 hts gX12_truly_X12_isBundle rfl rfl rfl (by decide +kernel) ⟨Nat.le_of_ble_eq_true rfl, Nat.le_of_ble_eq_true rfl⟩) ⟨fun a U g mk q => by obtain ⟨q0, qP, qK⟩ := q; exact ⟨q0, qP, va_K.moved (u := U) (U := U.calling g mk a) (Vm.Alike.refl U.vm) qK⟩, va_recv hK hP (ci := 12) (q0 := 0) rfl rfl, fun U hU hW => ⟨rfl, by rw [hU]; exact hPc_1, va_K.moved hW.alike hKc_2⟩⟩ rfl rfl hl.1 rfl (lv_room (Nat.le_of_ble_eq_true rfl)) dX12_truly_2 ⟨Nat.le_of_ble_eq_true rfl, Nat.le_of_ble_eq_true rfl⟩)) (fun r_3 hw_4 => ?_)
  obtain rfl : 0 = r_3 := hw_4.symm
  refine lv_if_eq (tgt := 18) hx hb dX12_truly_5 (by decide) (fun c_5 => ?_) (fun c_5 => ?_)
  · refine lv_aload_n hx hb dX12_truly_18 rfl (lv_at hl 0 rfl) ?_
    refine lv_bipush (v := (-2)) hx hb dX12_truly_19 (by decide) ?_
    have hPc := hP.sub (ws' := [(mo, .inr (12, [.ref nw, .ref kp, .ref ik, .ref mr, .long 0, .long 1, .ref mw, .long 0, .int 0, .int 0, .long 0, .long 0, .ref mq, .ref mz, .ref my, .int 0, .ref mb, .int 0, .int 0, .int 0, .int 0, .int 0, .ref mx, .ref mv])), (mr, .inl (cm, 3, .inl (fun _ => 0)))]) [0, 2] rfl
    have hDc := hD.sub (ws' := [(mo, .inr (12, [.ref nw, .ref kp, .ref ik, .ref mr, .long 0, .long 1, .ref mw, .long 0, .int 0, .int 0, .long 0, .long 0, .ref mq, .ref mz, .ref my, .int 0, .ref mb, .int 0, .int 0, .int 0, .int 0, .int 0, .ref mx, .ref mv])), (mr, .inl (cm, 3, .inl (fun _ => 0)))]) [0, 2] (by decide) rfl
    have hKc := hK.sub (tys' := [(cm, .int)]) [1] rfl
    have hFc := va_free (wc := [(mo, .inr (12, [.ref nw, .ref kp, .ref ik, .ref mr, .long 0, .long 1, .ref mw, .long 0, .int 0, .int 0, .long 0, .long 0, .ref mq, .ref mz, .ref my, .int 0, .ref mb, .int 0, .int 0, .int 0, .int 0, .int 0, .ref mx, .ref mv])), (mr, .inl (cm, 3, .inl (fun _ => 0)))]) hD hS hA [0, 2] rfl
    refine va_calli (va_runV (As := [.int (-2)]) (rest := []) ⟨hx, hb, hml, hown, hts⟩ (k_bad l dC dI mo nw kp ik mr mw mq mz my mb mx mv cm (-2) s.heap.size) (cwV 1 hts gX12_truly_X12_bad rfl rfl rfl (by decide +kernel) ⟨Nat.le_of_ble_eq_true rfl, Nat.le_of_ble_eq_true rfl⟩) ⟨fun a U g mk q => by obtain ⟨q0, q1, qP, qK, qD⟩ := q; exact ⟨q0, q1, qP, va_K.moved (u := U) (U := U.calling g mk a) (Vm.Alike.refl U.vm) qK, qD⟩, va_recv hK hP (ci := 12) (q0 := 0) rfl rfl, fun U hU hW => ⟨rfl, by rw [hU], by rw [hU]; exact hPc, va_K.moved hW.alike hKc, hDc.weaken (fun _ _ _ _ => trivial)⟩⟩ rfl rfl hl.1 rfl (lv_room (Nat.le_of_ble_eq_true rfl)) dX12_truly_21 ⟨Nat.le_of_ble_eq_true rfl, Nat.le_of_ble_eq_true rfl⟩) hS (fun q _ h => hFc q h) hFc (fun r_6 u_ t H1 locs ht hvm hw_7 hB hz1 hk1 hS => ?_)
    obtain ⟨hP, hD⟩ := va_join (wr := [(nw, .inl (cn, 350, .inl (fun _ => 0)))]) (w1 := []) hP hD [0, 2] [1] rfl rfl (by decide) (by decide) hk1 hFc tz_P0 tz_D0
    generalize H1 = H at hP hS ⊢
    have hP : va_P (dC, dI) vwCl [(nw, .inl (cn, 350, .inl (fun _ => 0)))] H := hP
    have hD : va_D A [(nw, .inl (cn, 350, .inl (fun _ => 0)))] := hD
    obtain rfl : (-2) = r_6 := hw_7.symm
    exact W.iret (v := (-2)) hx hb hr (fun t ht hW => ⟨⟨(-2), (), rfl, rfl, trivial⟩, hS.F ht⟩) hS.2.2 dX12_truly_24
  · exact absurd c_5 (by decide)
set_option maxRecDepth 20000 in
theorem ggX12_agreed_X12_isBundle : GoodIn wsX12_agreed wsX12_isBundle := goodIn_r _ [6, 1, 7, 8, 5, 9, 19, 20, 21, 22, 23, 24, 25, 26, 27, 28, 29, 30, 31, 32, 33, 34, 35, 36, 37, 38, 39, 40, 41, 42] (by decide +kernel) (by decide +kernel)
set_option maxRecDepth 20000 in
theorem gX12_agreed_X12_isBundle : GoodIn wsX12_agreed (wsV RX12 81 RX12 yX12_isBundle wsX12_isBundle) := goodIn_app (goodIn_of _ (by decide +kernel)) ggX12_agreed_X12_isBundle
set_option maxRecDepth 20000 in
theorem ggX12_agreed_X12_bad : GoodIn wsX12_agreed wsX12_bad := goodIn_r _ [13, 14, 19, 20, 21, 22, 23, 24, 25, 26, 27, 28, 29, 30, 31, 32, 33, 34, 35, 36, 37, 38, 39, 40, 41, 42] (by decide +kernel) (by decide +kernel)
set_option maxRecDepth 20000 in
theorem gX12_agreed_X12_bad : GoodIn wsX12_agreed (wsV RX12 61 RX12 yX12_bad wsX12_bad) := goodIn_app (goodIn_of _ (by decide +kernel)) ggX12_agreed_X12_bad
theorem dX12_agreed_0 : decode cX12_agreed 0 = .ok (.aload_n 0, 1) := by decide +kernel
theorem dX12_agreed_1 : decode cX12_agreed 1 = .ok (.iload_n 1, 1) := by decide +kernel
theorem dX12_agreed_2 : decode cX12_agreed 2 = .ok (.invokevirtual 81, 3) := by decide +kernel
theorem dX12_agreed_5 : decode cX12_agreed 5 = .ok (.ifCond .ne 10, 3) := by decide +kernel
theorem dX12_agreed_8 : decode cX12_agreed 8 = .ok (.aload_n 0, 1) := by decide +kernel
theorem dX12_agreed_9 : decode cX12_agreed 9 = .ok (.bipush (-2), 2) := by decide +kernel
theorem dX12_agreed_11 : decode cX12_agreed 11 = .ok (.invokevirtual 61, 3) := by decide +kernel
theorem dX12_agreed_14 : decode cX12_agreed 14 = .ok (.ireturn, 1) := by decide +kernel
set_option maxHeartbeats 4000000 in
set_option maxRecDepth 100000 in
theorem k_m_agreed (l : Launch) (dC : Nat → ClassId) (dI : Nat → Nat → Nat) (mo : Nat) (nw : Nat) (kp : Nat) (ik : Nat) (mr : Nat) (mw : Nat) (mq : Nat) (mz : Nat) (my : Nat) (mb : Nat) (mx : Nat) (mv : Nat) (cn : ClassId) (cm : ClassId) (na : Int32) (sz : Nat) : Met l yX12_agreed wsX12_agreed ({ frames := 2, cells := 0, slots := 0, locals := 46 }) (va_Pc [.ref mo, .int na] (fun U => U.heap.size = sz ∧ va_P (dC, dI) vwCl [(mo, .inr (12, [.ref nw, .ref kp, .ref ik, .ref mr, .long 0, .long 1, .ref mw, .long 0, .int 0, .int 0, .long 0, .long 0, .ref mq, .ref mz, .ref my, .int 0, .ref mb, .int 0, .int 0, .int 0, .int 0, .int 0, .ref mx, .ref mv])), (nw, .inl (cn, 350, .inl (fun _ => 0))), (mr, .inl (cm, 3, .inl (fun _ => 0)))] U.heap ∧ va_K (dC, dI) vwCl [(cn, .int), (cm, .int)] U ∧ va_D (fun _ => True) [(mo, .inr (12, [.ref nw, .ref kp, .ref ik, .ref mr, .long 0, .long 1, .ref mw, .long 0, .int 0, .int 0, .long 0, .long 0, .ref mq, .ref mz, .ref my, .int 0, .ref mb, .int 0, .int 0, .int 0, .int 0, .int 0, .ref mx, .ref mv])), (nw, .inl (cn, 350, .inl (fun _ => 0))), (mr, .inl (cm, 3, .inl (fun _ => 0)))])) (va_Qi (fun (r : Int32) (_ : Unit) => r = (-2)) (fun _ _ => True) (va_A [(mo, .inr (12, [.ref nw, .ref kp, .ref ik, .ref mr, .long 0, .long 1, .ref mw, .long 0, .int 0, .int 0, .long 0, .long 0, .ref mq, .ref mz, .ref my, .int 0, .ref mb, .int 0, .int 0, .int 0, .int 0, .int 0, .ref mx, .ref mv])), (nw, .inl (cn, 350, .inl (fun _ => 0))), (mr, .inl (cm, 3, .inl (fun _ => 0)))] sz)) 0 0 (va_A [(mo, .inr (12, [.ref nw, .ref kp, .ref ik, .ref mr, .long 0, .long 1, .ref mw, .long 0, .int 0, .int 0, .long 0, .long 0, .ref mq, .ref mz, .ref my, .int 0, .ref mb, .int 0, .int 0, .int 0, .int 0, .int 0, .ref mx, .ref mv])), (nw, .inl (cn, 350, .inl (fun _ => 0))), (mr, .inl (cm, 3, .inl (fun _ => 0)))] sz) := by
  refine Met.ofW (cc := cX12_agreed) (maxL := 4) (ret := (some .int)) (by decide) rfl ?_
  intro p e s m args below meth c s₁ B hml hv
  obtain ⟨rfl, hsz, hP, hK, hD0⟩ := hv
  have hx := B.exec
  have hb := B.bytes
  have hr := B.returns
  have hts := atoms_spec (ws := wsX12_agreed) B.pre
  have hown : s.vm.findClass RX12 = some m.cls := findClass_of_methodNamed B.named
  have hlocks := B.notSynchronized
  subst hsz
  have hD := hD0.self (sz := s.heap.size)
  generalize hAe : va_A [(mo, .inr (12, [.ref nw, .ref kp, .ref ik, .ref mr, .long 0, .long 1, .ref mw, .long 0, .int 0, .int 0, .long 0, .long 0, .ref mq, .ref mz, .ref my, .int 0, .ref mb, .int 0, .int 0, .int 0, .int 0, .int 0, .ref mx, .ref mv])), (nw, .inl (cn, 350, .inl (fun _ => 0))), (mr, .inl (cm, 3, .inl (fun _ => 0)))] s.heap.size = A at hD ⊢
  have hA : ∀ q : Nat, s.heap.size ≤ q → A q := fun q h => by rw [← hAe]; exact Or.inr h
  have hS : va_S A s.heap s.heap [] := va_S.rf
  have hP : va_P (dC, dI) vwCl [(mo, .inr (12, [.ref nw, .ref kp, .ref ik, .ref mr, .long 0, .long 1, .ref mw, .long 0, .int 0, .int 0, .long 0, .long 0, .ref mq, .ref mz, .ref my, .int 0, .ref mb, .int 0, .int 0, .int 0, .int 0, .int 0, .ref mx, .ref mv])), (nw, .inl (cn, 350, .inl (fun _ => 0))), (mr, .inl (cm, 3, .inl (fun _ => 0)))] s.heap := hP
  have hl := lv_entry ([.ref mo, .int na]) (n := 4) (Nat.le_of_ble_eq_true rfl)
  rw [lg_entry_eq]
  generalize (lg_sl ([.ref mo, .int na]) ++ List.replicate (4 - (lg_sl ([.ref mo, .int na])).length) Slot.unset).toArray = ls at hl ⊢
  have hl : lv_has ls 4 [(0, .ref mo), (1, .int na)] := hl
  refine lv_aload_n hx hb dX12_agreed_0 rfl (lv_at hl 0 rfl) ?_
  refine lv_iload_n hx hb dX12_agreed_1 rfl (lv_at hl 1 rfl) ?_
  have hPc_1 := hP.sub (ws' := [(mo, .inr (12, [.ref nw, .ref kp, .ref ik, .ref mr, .long 0, .long 1, .ref mw, .long 0, .int 0, .int 0, .long 0, .long 0, .ref mq, .ref mz, .ref my, .int 0, .ref mb, .int 0, .int 0, .int 0, .int 0, .int 0, .ref mx, .ref mv])), (nw, .inl (cn, 350, .inl (fun _ => 0)))]) [0, 1] rfl
  have hKc_2 := hK.sub (tys' := [(cn, .int)]) [0] rfl
  refine vp_callSi (va_Run.run (va_runV (As := [.int na]) (rest := []) ⟨hx, hb, hml, hown, hts⟩ (k_m_isBundle l dC dI mo nw kp ik mr mw mq mz my mb mx mv cn na) (cwV 1 hts gX12_agreed_X12_isBundle rfl rfl rfl (by decide +kernel) ⟨Nat.le_of_ble_eq_true rfl, Nat.le_of_ble_eq_true rfl⟩) ⟨fun a U g mk q => by obtain ⟨q0, qP, qK⟩ := q; exact ⟨q0, qP, va_K.moved (u := U) (U := U.calling g mk a) (Vm.Alike.refl U.vm) qK⟩, va_recv hK hP (ci := 12) (q0 := 0) rfl rfl, fun U hU hW => ⟨rfl, by rw [hU]; exact hPc_1, va_K.moved hW.alike hKc_2⟩⟩ rfl rfl hl.1 rfl (lv_room (Nat.le_of_ble_eq_true rfl)) dX12_agreed_2 ⟨Nat.le_of_ble_eq_true rfl, Nat.le_of_ble_eq_true rfl⟩)) (fun r_3 hw_4 => ?_)
  obtain rfl : 0 = r_3 := hw_4.symm
  refine lv_if_ne (tgt := 15) hx hb dX12_agreed_5 (by decide) (fun c_5 => ?_) (fun c_5 => ?_)
  · exact absurd c_5 (by decide)
  · refine lv_aload_n hx hb dX12_agreed_8 rfl (lv_at hl 0 rfl) ?_
    refine lv_bipush (v := (-2)) hx hb dX12_agreed_9 (by decide) ?_
    have hPc := hP.sub (ws' := [(mo, .inr (12, [.ref nw, .ref kp, .ref ik, .ref mr, .long 0, .long 1, .ref mw, .long 0, .int 0, .int 0, .long 0, .long 0, .ref mq, .ref mz, .ref my, .int 0, .ref mb, .int 0, .int 0, .int 0, .int 0, .int 0, .ref mx, .ref mv])), (mr, .inl (cm, 3, .inl (fun _ => 0)))]) [0, 2] rfl
    have hDc := hD.sub (ws' := [(mo, .inr (12, [.ref nw, .ref kp, .ref ik, .ref mr, .long 0, .long 1, .ref mw, .long 0, .int 0, .int 0, .long 0, .long 0, .ref mq, .ref mz, .ref my, .int 0, .ref mb, .int 0, .int 0, .int 0, .int 0, .int 0, .ref mx, .ref mv])), (mr, .inl (cm, 3, .inl (fun _ => 0)))]) [0, 2] (by decide) rfl
    have hKc := hK.sub (tys' := [(cm, .int)]) [1] rfl
    have hFc := va_free (wc := [(mo, .inr (12, [.ref nw, .ref kp, .ref ik, .ref mr, .long 0, .long 1, .ref mw, .long 0, .int 0, .int 0, .long 0, .long 0, .ref mq, .ref mz, .ref my, .int 0, .ref mb, .int 0, .int 0, .int 0, .int 0, .int 0, .ref mx, .ref mv])), (mr, .inl (cm, 3, .inl (fun _ => 0)))]) hD hS hA [0, 2] rfl
    refine va_calli (va_runV (As := [.int (-2)]) (rest := []) ⟨hx, hb, hml, hown, hts⟩ (k_bad l dC dI mo nw kp ik mr mw mq mz my mb mx mv cm (-2) s.heap.size) (cwV 1 hts gX12_agreed_X12_bad rfl rfl rfl (by decide +kernel) ⟨Nat.le_of_ble_eq_true rfl, Nat.le_of_ble_eq_true rfl⟩) ⟨fun a U g mk q => by obtain ⟨q0, q1, qP, qK, qD⟩ := q; exact ⟨q0, q1, qP, va_K.moved (u := U) (U := U.calling g mk a) (Vm.Alike.refl U.vm) qK, qD⟩, va_recv hK hP (ci := 12) (q0 := 0) rfl rfl, fun U hU hW => ⟨rfl, by rw [hU], by rw [hU]; exact hPc, va_K.moved hW.alike hKc, hDc.weaken (fun _ _ _ _ => trivial)⟩⟩ rfl rfl hl.1 rfl (lv_room (Nat.le_of_ble_eq_true rfl)) dX12_agreed_11 ⟨Nat.le_of_ble_eq_true rfl, Nat.le_of_ble_eq_true rfl⟩) hS (fun q _ h => hFc q h) hFc (fun r_6 u_ t H1 locs ht hvm hw_7 hB hz1 hk1 hS => ?_)
    obtain ⟨hP, hD⟩ := va_join (wr := [(nw, .inl (cn, 350, .inl (fun _ => 0)))]) (w1 := []) hP hD [0, 2] [1] rfl rfl (by decide) (by decide) hk1 hFc tz_P0 tz_D0
    generalize H1 = H at hP hS ⊢
    have hP : va_P (dC, dI) vwCl [(nw, .inl (cn, 350, .inl (fun _ => 0)))] H := hP
    have hD : va_D A [(nw, .inl (cn, 350, .inl (fun _ => 0)))] := hD
    obtain rfl : (-2) = r_6 := hw_7.symm
    exact W.iret (v := (-2)) hx hb hr (fun t ht hW => ⟨⟨(-2), (), rfl, rfl, trivial⟩, hS.F ht⟩) hS.2.2 dX12_agreed_14
set_option maxRecDepth 20000 in
theorem ggX12_wrong_X12_isCount : GoodIn wsX12_wrong wsX12_isCount := goodIn_r _ [9, 10, 11, 12, 8, 13, 61, 62, 63, 64, 65, 66, 67, 68, 69, 70, 71, 72, 73, 74, 75, 76, 77, 78, 79, 80, 81, 82, 83, 84] (by decide +kernel) (by decide +kernel)
set_option maxRecDepth 20000 in
theorem gX12_wrong_X12_isCount : GoodIn wsX12_wrong (wsV RX12 110 RX12 yX12_isCount wsX12_isCount) := goodIn_app (goodIn_of _ (by decide +kernel)) ggX12_wrong_X12_isCount
set_option maxRecDepth 20000 in
theorem ggX12_wrong_X12_bad : GoodIn wsX12_wrong wsX12_bad := goodIn_r _ [17, 18, 61, 62, 63, 64, 65, 66, 67, 68, 69, 70, 71, 72, 73, 74, 75, 76, 77, 78, 79, 80, 81, 82, 83, 84] (by decide +kernel) (by decide +kernel)
set_option maxRecDepth 20000 in
theorem gX12_wrong_X12_bad : GoodIn wsX12_wrong (wsV RX12 61 RX12 yX12_bad wsX12_bad) := goodIn_app (goodIn_of _ (by decide +kernel)) ggX12_wrong_X12_bad
theorem dX12_wrong_0 : decode cX12_wrong 0 = .ok (.aload_n 0, 1) := by decide +kernel
theorem dX12_wrong_1 : decode cX12_wrong 1 = .ok (.iload_n 1, 1) := by decide +kernel
theorem dX12_wrong_2 : decode cX12_wrong 2 = .ok (.invokevirtual 110, 3) := by decide +kernel
theorem dX12_wrong_5 : decode cX12_wrong 5 = .ok (.ifCond .ne 10, 3) := by decide +kernel
theorem dX12_wrong_8 : decode cX12_wrong 8 = .ok (.aload_n 0, 1) := by decide +kernel
theorem dX12_wrong_9 : decode cX12_wrong 9 = .ok (.bipush (-2), 2) := by decide +kernel
theorem dX12_wrong_11 : decode cX12_wrong 11 = .ok (.invokevirtual 61, 3) := by decide +kernel
theorem dX12_wrong_14 : decode cX12_wrong 14 = .ok (.ireturn, 1) := by decide +kernel
set_option maxHeartbeats 4000000 in
set_option maxRecDepth 100000 in
theorem k_m_wrong (l : Launch) (dC : Nat → ClassId) (dI : Nat → Nat → Nat) (mo : Nat) (nw : Nat) (kp : Nat) (ik : Nat) (mr : Nat) (mw : Nat) (mq : Nat) (mz : Nat) (my : Nat) (mb : Nat) (mx : Nat) (mv : Nat) (cn : ClassId) (cm : ClassId) (na : Int32) (sz : Nat) : Met l yX12_wrong wsX12_wrong ({ frames := 2, cells := 0, slots := 0, locals := 46 }) (va_Pc [.ref mo, .int na] (fun U => U.heap.size = sz ∧ va_P (dC, dI) vwCl [(mo, .inr (12, [.ref nw, .ref kp, .ref ik, .ref mr, .long 0, .long 1, .ref mw, .long 0, .int 0, .int 0, .long 0, .long 0, .ref mq, .ref mz, .ref my, .int 0, .ref mb, .int 0, .int 0, .int 0, .int 0, .int 0, .ref mx, .ref mv])), (nw, .inl (cn, 350, .inl (fun _ => 0))), (mr, .inl (cm, 3, .inl (fun _ => 0)))] U.heap ∧ va_K (dC, dI) vwCl [(cn, .int), (cm, .int)] U ∧ va_D (fun _ => True) [(mo, .inr (12, [.ref nw, .ref kp, .ref ik, .ref mr, .long 0, .long 1, .ref mw, .long 0, .int 0, .int 0, .long 0, .long 0, .ref mq, .ref mz, .ref my, .int 0, .ref mb, .int 0, .int 0, .int 0, .int 0, .int 0, .ref mx, .ref mv])), (nw, .inl (cn, 350, .inl (fun _ => 0))), (mr, .inl (cm, 3, .inl (fun _ => 0)))])) (va_Qi (fun (r : Int32) (_ : Unit) => r = (-2)) (fun _ _ => True) (va_A [(mo, .inr (12, [.ref nw, .ref kp, .ref ik, .ref mr, .long 0, .long 1, .ref mw, .long 0, .int 0, .int 0, .long 0, .long 0, .ref mq, .ref mz, .ref my, .int 0, .ref mb, .int 0, .int 0, .int 0, .int 0, .int 0, .ref mx, .ref mv])), (nw, .inl (cn, 350, .inl (fun _ => 0))), (mr, .inl (cm, 3, .inl (fun _ => 0)))] sz)) 0 0 (va_A [(mo, .inr (12, [.ref nw, .ref kp, .ref ik, .ref mr, .long 0, .long 1, .ref mw, .long 0, .int 0, .int 0, .long 0, .long 0, .ref mq, .ref mz, .ref my, .int 0, .ref mb, .int 0, .int 0, .int 0, .int 0, .int 0, .ref mx, .ref mv])), (nw, .inl (cn, 350, .inl (fun _ => 0))), (mr, .inl (cm, 3, .inl (fun _ => 0)))] sz) := by
  refine Met.ofW (cc := cX12_wrong) (maxL := 5) (ret := (some .int)) (by decide) rfl ?_
  intro p e s m args below meth c s₁ B hml hv
  obtain ⟨rfl, hsz, hP, hK, hD0⟩ := hv
  have hx := B.exec
  have hb := B.bytes
  have hr := B.returns
  have hts := atoms_spec (ws := wsX12_wrong) B.pre
  have hown : s.vm.findClass RX12 = some m.cls := findClass_of_methodNamed B.named
  have hlocks := B.notSynchronized
  subst hsz
  have hD := hD0.self (sz := s.heap.size)
  generalize hAe : va_A [(mo, .inr (12, [.ref nw, .ref kp, .ref ik, .ref mr, .long 0, .long 1, .ref mw, .long 0, .int 0, .int 0, .long 0, .long 0, .ref mq, .ref mz, .ref my, .int 0, .ref mb, .int 0, .int 0, .int 0, .int 0, .int 0, .ref mx, .ref mv])), (nw, .inl (cn, 350, .inl (fun _ => 0))), (mr, .inl (cm, 3, .inl (fun _ => 0)))] s.heap.size = A at hD ⊢
  have hA : ∀ q : Nat, s.heap.size ≤ q → A q := fun q h => by rw [← hAe]; exact Or.inr h
  have hS : va_S A s.heap s.heap [] := va_S.rf
  have hP : va_P (dC, dI) vwCl [(mo, .inr (12, [.ref nw, .ref kp, .ref ik, .ref mr, .long 0, .long 1, .ref mw, .long 0, .int 0, .int 0, .long 0, .long 0, .ref mq, .ref mz, .ref my, .int 0, .ref mb, .int 0, .int 0, .int 0, .int 0, .int 0, .ref mx, .ref mv])), (nw, .inl (cn, 350, .inl (fun _ => 0))), (mr, .inl (cm, 3, .inl (fun _ => 0)))] s.heap := hP
  have hl := lv_entry ([.ref mo, .int na]) (n := 5) (Nat.le_of_ble_eq_true rfl)
  rw [lg_entry_eq]
  generalize (lg_sl ([.ref mo, .int na]) ++ List.replicate (5 - (lg_sl ([.ref mo, .int na])).length) Slot.unset).toArray = ls at hl ⊢
  have hl : lv_has ls 5 [(0, .ref mo), (1, .int na)] := hl
  refine lv_aload_n hx hb dX12_wrong_0 rfl (lv_at hl 0 rfl) ?_
  refine lv_iload_n hx hb dX12_wrong_1 rfl (lv_at hl 1 rfl) ?_
  have hPc_1 := hP.sub (ws' := [(mo, .inr (12, [.ref nw, .ref kp, .ref ik, .ref mr, .long 0, .long 1, .ref mw, .long 0, .int 0, .int 0, .long 0, .long 0, .ref mq, .ref mz, .ref my, .int 0, .ref mb, .int 0, .int 0, .int 0, .int 0, .int 0, .ref mx, .ref mv])), (nw, .inl (cn, 350, .inl (fun _ => 0)))]) [0, 1] rfl
  have hKc_2 := hK.sub (tys' := [(cn, .int)]) [0] rfl
  refine vp_callSi (va_Run.run (va_runV (As := [.int na]) (rest := []) ⟨hx, hb, hml, hown, hts⟩ (k_m_isCount l dC dI mo nw kp ik mr mw mq mz my mb mx mv cn na) (cwV 1 hts gX12_wrong_X12_isCount rfl rfl rfl (by decide +kernel) ⟨Nat.le_of_ble_eq_true rfl, Nat.le_of_ble_eq_true rfl⟩) ⟨fun a U g mk q => by obtain ⟨q0, qP, qK⟩ := q; exact ⟨q0, qP, va_K.moved (u := U) (U := U.calling g mk a) (Vm.Alike.refl U.vm) qK⟩, va_recv hK hP (ci := 12) (q0 := 0) rfl rfl, fun U hU hW => ⟨rfl, by rw [hU]; exact hPc_1, va_K.moved hW.alike hKc_2⟩⟩ rfl rfl hl.1 rfl (lv_room (Nat.le_of_ble_eq_true rfl)) dX12_wrong_2 ⟨Nat.le_of_ble_eq_true rfl, Nat.le_of_ble_eq_true rfl⟩)) (fun r_3 hw_4 => ?_)
  obtain rfl : 0 = r_3 := hw_4.symm
  refine lv_if_ne (tgt := 15) hx hb dX12_wrong_5 (by decide) (fun c_5 => ?_) (fun c_5 => ?_)
  · exact absurd c_5 (by decide)
  · refine lv_aload_n hx hb dX12_wrong_8 rfl (lv_at hl 0 rfl) ?_
    refine lv_bipush (v := (-2)) hx hb dX12_wrong_9 (by decide) ?_
    have hPc := hP.sub (ws' := [(mo, .inr (12, [.ref nw, .ref kp, .ref ik, .ref mr, .long 0, .long 1, .ref mw, .long 0, .int 0, .int 0, .long 0, .long 0, .ref mq, .ref mz, .ref my, .int 0, .ref mb, .int 0, .int 0, .int 0, .int 0, .int 0, .ref mx, .ref mv])), (mr, .inl (cm, 3, .inl (fun _ => 0)))]) [0, 2] rfl
    have hDc := hD.sub (ws' := [(mo, .inr (12, [.ref nw, .ref kp, .ref ik, .ref mr, .long 0, .long 1, .ref mw, .long 0, .int 0, .int 0, .long 0, .long 0, .ref mq, .ref mz, .ref my, .int 0, .ref mb, .int 0, .int 0, .int 0, .int 0, .int 0, .ref mx, .ref mv])), (mr, .inl (cm, 3, .inl (fun _ => 0)))]) [0, 2] (by decide) rfl
    have hKc := hK.sub (tys' := [(cm, .int)]) [1] rfl
    have hFc := va_free (wc := [(mo, .inr (12, [.ref nw, .ref kp, .ref ik, .ref mr, .long 0, .long 1, .ref mw, .long 0, .int 0, .int 0, .long 0, .long 0, .ref mq, .ref mz, .ref my, .int 0, .ref mb, .int 0, .int 0, .int 0, .int 0, .int 0, .ref mx, .ref mv])), (mr, .inl (cm, 3, .inl (fun _ => 0)))]) hD hS hA [0, 2] rfl
    refine va_calli (va_runV (As := [.int (-2)]) (rest := []) ⟨hx, hb, hml, hown, hts⟩ (k_bad l dC dI mo nw kp ik mr mw mq mz my mb mx mv cm (-2) s.heap.size) (cwV 1 hts gX12_wrong_X12_bad rfl rfl rfl (by decide +kernel) ⟨Nat.le_of_ble_eq_true rfl, Nat.le_of_ble_eq_true rfl⟩) ⟨fun a U g mk q => by obtain ⟨q0, q1, qP, qK, qD⟩ := q; exact ⟨q0, q1, qP, va_K.moved (u := U) (U := U.calling g mk a) (Vm.Alike.refl U.vm) qK, qD⟩, va_recv hK hP (ci := 12) (q0 := 0) rfl rfl, fun U hU hW => ⟨rfl, by rw [hU], by rw [hU]; exact hPc, va_K.moved hW.alike hKc, hDc.weaken (fun _ _ _ _ => trivial)⟩⟩ rfl rfl hl.1 rfl (lv_room (Nat.le_of_ble_eq_true rfl)) dX12_wrong_11 ⟨Nat.le_of_ble_eq_true rfl, Nat.le_of_ble_eq_true rfl⟩) hS (fun q _ h => hFc q h) hFc (fun r_6 u_ t H1 locs ht hvm hw_7 hB hz1 hk1 hS => ?_)
    obtain ⟨hP, hD⟩ := va_join (wr := [(nw, .inl (cn, 350, .inl (fun _ => 0)))]) (w1 := []) hP hD [0, 2] [1] rfl rfl (by decide) (by decide) hk1 hFc tz_P0 tz_D0
    generalize H1 = H at hP hS ⊢
    have hP : va_P (dC, dI) vwCl [(nw, .inl (cn, 350, .inl (fun _ => 0)))] H := hP
    have hD : va_D A [(nw, .inl (cn, 350, .inl (fun _ => 0)))] := hD
    obtain rfl : (-2) = r_6 := hw_7.symm
    exact W.iret (v := (-2)) hx hb hr (fun t ht hW => ⟨⟨(-2), (), rfl, rfl, trivial⟩, hS.F ht⟩) hS.2.2 dX12_wrong_14
set_option maxRecDepth 20000 in
theorem ggX12_enough_X12_isBundle : GoodIn wsX12_enough wsX12_isBundle := goodIn_r _ [7, 8, 9, 10, 6, 11, 62, 63, 64, 65, 66, 67, 68, 69, 70, 71, 72, 73, 74, 75, 76, 77, 78, 79, 80, 81, 82, 83, 84, 85] (by decide +kernel) (by decide +kernel)
set_option maxRecDepth 20000 in
theorem gX12_enough_X12_isBundle : GoodIn wsX12_enough (wsV RX12 81 RX12 yX12_isBundle wsX12_isBundle) := goodIn_app (goodIn_of _ (by decide +kernel)) ggX12_enough_X12_isBundle
set_option maxRecDepth 20000 in
theorem ggX12_enough_X12_bad : GoodIn wsX12_enough wsX12_bad := goodIn_r _ [19, 20, 62, 63, 64, 65, 66, 67, 68, 69, 70, 71, 72, 73, 74, 75, 76, 77, 78, 79, 80, 81, 82, 83, 84, 85] (by decide +kernel) (by decide +kernel)
set_option maxRecDepth 20000 in
theorem gX12_enough_X12_bad : GoodIn wsX12_enough (wsV RX12 61 RX12 yX12_bad wsX12_bad) := goodIn_app (goodIn_of _ (by decide +kernel)) ggX12_enough_X12_bad
theorem dX12_enough_0 : decode cX12_enough 0 = .ok (.aload_n 0, 1) := by decide +kernel
theorem dX12_enough_1 : decode cX12_enough 1 = .ok (.iload_n 1, 1) := by decide +kernel
theorem dX12_enough_2 : decode cX12_enough 2 = .ok (.invokevirtual 81, 3) := by decide +kernel
theorem dX12_enough_5 : decode cX12_enough 5 = .ok (.ifCond .eq 22, 3) := by decide +kernel
theorem dX12_enough_27 : decode cX12_enough 27 = .ok (.aload_n 0, 1) := by decide +kernel
theorem dX12_enough_28 : decode cX12_enough 28 = .ok (.bipush (-2), 2) := by decide +kernel
theorem dX12_enough_30 : decode cX12_enough 30 = .ok (.invokevirtual 61, 3) := by decide +kernel
theorem dX12_enough_33 : decode cX12_enough 33 = .ok (.ireturn, 1) := by decide +kernel
set_option maxHeartbeats 4000000 in
set_option maxRecDepth 100000 in
theorem k_m_enough (l : Launch) (dC : Nat → ClassId) (dI : Nat → Nat → Nat) (mo : Nat) (nw : Nat) (kp : Nat) (ik : Nat) (mr : Nat) (mw : Nat) (mq : Nat) (mz : Nat) (my : Nat) (mb : Nat) (mx : Nat) (mv : Nat) (cn : ClassId) (cm : ClassId) (na : Int32) (nb : Int32) (nc : Int32) (sz : Nat) : Met l yX12_enough wsX12_enough ({ frames := 2, cells := 0, slots := 0, locals := 46 }) (va_Pc [.ref mo, .int na, .int nb, .int nc] (fun U => U.heap.size = sz ∧ va_P (dC, dI) vwCl [(mo, .inr (12, [.ref nw, .ref kp, .ref ik, .ref mr, .long 0, .long 1, .ref mw, .long 0, .int 0, .int 0, .long 0, .long 0, .ref mq, .ref mz, .ref my, .int 0, .ref mb, .int 0, .int 0, .int 0, .int 0, .int 0, .ref mx, .ref mv])), (nw, .inl (cn, 350, .inl (fun _ => 0))), (mr, .inl (cm, 3, .inl (fun _ => 0)))] U.heap ∧ va_K (dC, dI) vwCl [(cn, .int), (cm, .int)] U ∧ va_D (fun _ => True) [(mo, .inr (12, [.ref nw, .ref kp, .ref ik, .ref mr, .long 0, .long 1, .ref mw, .long 0, .int 0, .int 0, .long 0, .long 0, .ref mq, .ref mz, .ref my, .int 0, .ref mb, .int 0, .int 0, .int 0, .int 0, .int 0, .ref mx, .ref mv])), (nw, .inl (cn, 350, .inl (fun _ => 0))), (mr, .inl (cm, 3, .inl (fun _ => 0)))])) (va_Qi (fun (r : Int32) (_ : Unit) => r = (-2)) (fun _ _ => True) (va_A [(mo, .inr (12, [.ref nw, .ref kp, .ref ik, .ref mr, .long 0, .long 1, .ref mw, .long 0, .int 0, .int 0, .long 0, .long 0, .ref mq, .ref mz, .ref my, .int 0, .ref mb, .int 0, .int 0, .int 0, .int 0, .int 0, .ref mx, .ref mv])), (nw, .inl (cn, 350, .inl (fun _ => 0))), (mr, .inl (cm, 3, .inl (fun _ => 0)))] sz)) 0 0 (va_A [(mo, .inr (12, [.ref nw, .ref kp, .ref ik, .ref mr, .long 0, .long 1, .ref mw, .long 0, .int 0, .int 0, .long 0, .long 0, .ref mq, .ref mz, .ref my, .int 0, .ref mb, .int 0, .int 0, .int 0, .int 0, .int 0, .ref mx, .ref mv])), (nw, .inl (cn, 350, .inl (fun _ => 0))), (mr, .inl (cm, 3, .inl (fun _ => 0)))] sz) := by
  refine Met.ofW (cc := cX12_enough) (maxL := 5) (ret := (some .int)) (by decide) rfl ?_
  intro p e s m args below meth c s₁ B hml hv
  obtain ⟨rfl, hsz, hP, hK, hD0⟩ := hv
  have hx := B.exec
  have hb := B.bytes
  have hr := B.returns
  have hts := atoms_spec (ws := wsX12_enough) B.pre
  have hown : s.vm.findClass RX12 = some m.cls := findClass_of_methodNamed B.named
  have hlocks := B.notSynchronized
  subst hsz
  have hD := hD0.self (sz := s.heap.size)
  generalize hAe : va_A [(mo, .inr (12, [.ref nw, .ref kp, .ref ik, .ref mr, .long 0, .long 1, .ref mw, .long 0, .int 0, .int 0, .long 0, .long 0, .ref mq, .ref mz, .ref my, .int 0, .ref mb, .int 0, .int 0, .int 0, .int 0, .int 0, .ref mx, .ref mv])), (nw, .inl (cn, 350, .inl (fun _ => 0))), (mr, .inl (cm, 3, .inl (fun _ => 0)))] s.heap.size = A at hD ⊢
  have hA : ∀ q : Nat, s.heap.size ≤ q → A q := fun q h => by rw [← hAe]; exact Or.inr h
  have hS : va_S A s.heap s.heap [] := va_S.rf
  have hP : va_P (dC, dI) vwCl [(mo, .inr (12, [.ref nw, .ref kp, .ref ik, .ref mr, .long 0, .long 1, .ref mw, .long 0, .int 0, .int 0, .long 0, .long 0, .ref mq, .ref mz, .ref my, .int 0, .ref mb, .int 0, .int 0, .int 0, .int 0, .int 0, .ref mx, .ref mv])), (nw, .inl (cn, 350, .inl (fun _ => 0))), (mr, .inl (cm, 3, .inl (fun _ => 0)))] s.heap := hP
  have hl := lv_entry ([.ref mo, .int na, .int nb, .int nc]) (n := 5) (Nat.le_of_ble_eq_true rfl)
  rw [lg_entry_eq]
  generalize (lg_sl ([.ref mo, .int na, .int nb, .int nc]) ++ List.replicate (5 - (lg_sl ([.ref mo, .int na, .int nb, .int nc])).length) Slot.unset).toArray = ls at hl ⊢
  have hl : lv_has ls 5 [(0, .ref mo), (1, .int na), (2, .int nb), (3, .int nc)] := hl
  refine lv_aload_n hx hb dX12_enough_0 rfl (lv_at hl 0 rfl) ?_
  refine lv_iload_n hx hb dX12_enough_1 rfl (lv_at hl 1 rfl) ?_
  have hPc_1 := hP.sub (ws' := [(mo, .inr (12, [.ref nw, .ref kp, .ref ik, .ref mr, .long 0, .long 1, .ref mw, .long 0, .int 0, .int 0, .long 0, .long 0, .ref mq, .ref mz, .ref my, .int 0, .ref mb, .int 0, .int 0, .int 0, .int 0, .int 0, .ref mx, .ref mv])), (nw, .inl (cn, 350, .inl (fun _ => 0)))]) [0, 1] rfl
  have hKc_2 := hK.sub (tys' := [(cn, .int)]) [0] rfl
  refine vp_callSi (va_Run.run (va_runV (As := [.int na]) (rest := []) ⟨hx, hb, hml, hown, hts⟩ (k_m_isBundle l dC dI mo nw kp ik mr mw mq mz my mb mx mv cn na) (cwV 1 hts gX12_enough_X12_isBundle rfl rfl rfl (by decide +kernel) ⟨Nat.le_of_ble_eq_true rfl, Nat.le_of_ble_eq_true rfl⟩) ⟨fun a U g mk q => by obtain ⟨q0, qP, qK⟩ := q; exact ⟨q0, qP, va_K.moved (u := U) (U := U.calling g mk a) (Vm.Alike.refl U.vm) qK⟩, va_recv hK hP (ci := 12) (q0 := 0) rfl rfl, fun U hU hW => ⟨rfl, by rw [hU]; exact hPc_1, va_K.moved hW.alike hKc_2⟩⟩ rfl rfl hl.1 rfl (lv_room (Nat.le_of_ble_eq_true rfl)) dX12_enough_2 ⟨Nat.le_of_ble_eq_true rfl, Nat.le_of_ble_eq_true rfl⟩)) (fun r_3 hw_4 => ?_)
  obtain rfl : 0 = r_3 := hw_4.symm
  refine lv_if_eq (tgt := 27) hx hb dX12_enough_5 (by decide) (fun c_5 => ?_) (fun c_5 => ?_)
  · refine lv_aload_n hx hb dX12_enough_27 rfl (lv_at hl 0 rfl) ?_
    refine lv_bipush (v := (-2)) hx hb dX12_enough_28 (by decide) ?_
    have hPc := hP.sub (ws' := [(mo, .inr (12, [.ref nw, .ref kp, .ref ik, .ref mr, .long 0, .long 1, .ref mw, .long 0, .int 0, .int 0, .long 0, .long 0, .ref mq, .ref mz, .ref my, .int 0, .ref mb, .int 0, .int 0, .int 0, .int 0, .int 0, .ref mx, .ref mv])), (mr, .inl (cm, 3, .inl (fun _ => 0)))]) [0, 2] rfl
    have hDc := hD.sub (ws' := [(mo, .inr (12, [.ref nw, .ref kp, .ref ik, .ref mr, .long 0, .long 1, .ref mw, .long 0, .int 0, .int 0, .long 0, .long 0, .ref mq, .ref mz, .ref my, .int 0, .ref mb, .int 0, .int 0, .int 0, .int 0, .int 0, .ref mx, .ref mv])), (mr, .inl (cm, 3, .inl (fun _ => 0)))]) [0, 2] (by decide) rfl
    have hKc := hK.sub (tys' := [(cm, .int)]) [1] rfl
    have hFc := va_free (wc := [(mo, .inr (12, [.ref nw, .ref kp, .ref ik, .ref mr, .long 0, .long 1, .ref mw, .long 0, .int 0, .int 0, .long 0, .long 0, .ref mq, .ref mz, .ref my, .int 0, .ref mb, .int 0, .int 0, .int 0, .int 0, .int 0, .ref mx, .ref mv])), (mr, .inl (cm, 3, .inl (fun _ => 0)))]) hD hS hA [0, 2] rfl
    refine va_calli (va_runV (As := [.int (-2)]) (rest := []) ⟨hx, hb, hml, hown, hts⟩ (k_bad l dC dI mo nw kp ik mr mw mq mz my mb mx mv cm (-2) s.heap.size) (cwV 1 hts gX12_enough_X12_bad rfl rfl rfl (by decide +kernel) ⟨Nat.le_of_ble_eq_true rfl, Nat.le_of_ble_eq_true rfl⟩) ⟨fun a U g mk q => by obtain ⟨q0, q1, qP, qK, qD⟩ := q; exact ⟨q0, q1, qP, va_K.moved (u := U) (U := U.calling g mk a) (Vm.Alike.refl U.vm) qK, qD⟩, va_recv hK hP (ci := 12) (q0 := 0) rfl rfl, fun U hU hW => ⟨rfl, by rw [hU], by rw [hU]; exact hPc, va_K.moved hW.alike hKc, hDc.weaken (fun _ _ _ _ => trivial)⟩⟩ rfl rfl hl.1 rfl (lv_room (Nat.le_of_ble_eq_true rfl)) dX12_enough_30 ⟨Nat.le_of_ble_eq_true rfl, Nat.le_of_ble_eq_true rfl⟩) hS (fun q _ h => hFc q h) hFc (fun r_6 u_ t H1 locs ht hvm hw_7 hB hz1 hk1 hS => ?_)
    obtain ⟨hP, hD⟩ := va_join (wr := [(nw, .inl (cn, 350, .inl (fun _ => 0)))]) (w1 := []) hP hD [0, 2] [1] rfl rfl (by decide) (by decide) hk1 hFc tz_P0 tz_D0
    generalize H1 = H at hP hS ⊢
    have hP : va_P (dC, dI) vwCl [(nw, .inl (cn, 350, .inl (fun _ => 0)))] H := hP
    have hD : va_D A [(nw, .inl (cn, 350, .inl (fun _ => 0)))] := hD
    obtain rfl : (-2) = r_6 := hw_7.symm
    exact W.iret (v := (-2)) hx hb hr (fun t ht hW => ⟨⟨(-2), (), rfl, rfl, trivial⟩, hS.F ht⟩) hS.2.2 dX12_enough_33
  · exact absurd c_5 (by decide)
set_option maxRecDepth 20000 in
theorem ggX12_plan_X12_isBundle : GoodIn wsX12_plan wsX12_isBundle := goodIn_r _ [9, 10, 11, 12, 8, 13, 72, 73, 74, 75, 76, 77, 78, 79, 80, 81, 82, 83, 84, 85, 86, 87, 88, 89, 90, 91, 92, 93, 94, 95] (by decide +kernel) (by decide +kernel)
set_option maxRecDepth 20000 in
theorem gX12_plan_X12_isBundle : GoodIn wsX12_plan (wsV RX12 81 RX12 yX12_isBundle wsX12_isBundle) := goodIn_app (goodIn_of _ (by decide +kernel)) ggX12_plan_X12_isBundle
set_option maxRecDepth 20000 in
theorem ggX12_plan_X12_bad : GoodIn wsX12_plan wsX12_bad := goodIn_r _ [17, 18, 72, 73, 74, 75, 76, 77, 78, 79, 80, 81, 82, 83, 84, 85, 86, 87, 88, 89, 90, 91, 92, 93, 94, 95] (by decide +kernel) (by decide +kernel)
set_option maxRecDepth 20000 in
theorem gX12_plan_X12_bad : GoodIn wsX12_plan (wsV RX12 61 RX12 yX12_bad wsX12_bad) := goodIn_app (goodIn_of _ (by decide +kernel)) ggX12_plan_X12_bad
theorem dX12_plan_0 : decode cX12_plan 0 = .ok (.aload_n 0, 1) := by decide +kernel
theorem dX12_plan_1 : decode cX12_plan 1 = .ok (.iload_n 1, 1) := by decide +kernel
theorem dX12_plan_2 : decode cX12_plan 2 = .ok (.invokevirtual 81, 3) := by decide +kernel
theorem dX12_plan_5 : decode cX12_plan 5 = .ok (.ifCond .eq 15, 3) := by decide +kernel
theorem dX12_plan_20 : decode cX12_plan 20 = .ok (.aload_n 0, 1) := by decide +kernel
theorem dX12_plan_21 : decode cX12_plan 21 = .ok (.bipush (-2), 2) := by decide +kernel
theorem dX12_plan_23 : decode cX12_plan 23 = .ok (.invokevirtual 61, 3) := by decide +kernel
theorem dX12_plan_26 : decode cX12_plan 26 = .ok (.ireturn, 1) := by decide +kernel
set_option maxHeartbeats 4000000 in
set_option maxRecDepth 100000 in
theorem k_m_plan (l : Launch) (dC : Nat → ClassId) (dI : Nat → Nat → Nat) (mo : Nat) (nw : Nat) (kp : Nat) (ik : Nat) (mr : Nat) (mw : Nat) (mq : Nat) (mz : Nat) (my : Nat) (mb : Nat) (mx : Nat) (mv : Nat) (cn : ClassId) (cm : ClassId) (na : Int32) (nb : Int32) (sz : Nat) : Met l yX12_plan wsX12_plan ({ frames := 2, cells := 0, slots := 0, locals := 46 }) (va_Pc [.ref mo, .int na, .int nb] (fun U => U.heap.size = sz ∧ va_P (dC, dI) vwCl [(mo, .inr (12, [.ref nw, .ref kp, .ref ik, .ref mr, .long 0, .long 1, .ref mw, .long 0, .int 0, .int 0, .long 0, .long 0, .ref mq, .ref mz, .ref my, .int 0, .ref mb, .int 0, .int 0, .int 0, .int 0, .int 0, .ref mx, .ref mv])), (nw, .inl (cn, 350, .inl (fun _ => 0))), (mr, .inl (cm, 3, .inl (fun _ => 0)))] U.heap ∧ va_K (dC, dI) vwCl [(cn, .int), (cm, .int)] U ∧ va_D (fun _ => True) [(mo, .inr (12, [.ref nw, .ref kp, .ref ik, .ref mr, .long 0, .long 1, .ref mw, .long 0, .int 0, .int 0, .long 0, .long 0, .ref mq, .ref mz, .ref my, .int 0, .ref mb, .int 0, .int 0, .int 0, .int 0, .int 0, .ref mx, .ref mv])), (nw, .inl (cn, 350, .inl (fun _ => 0))), (mr, .inl (cm, 3, .inl (fun _ => 0)))])) (va_Qi (fun (r : Int32) (_ : Unit) => r = (-2)) (fun _ _ => True) (va_A [(mo, .inr (12, [.ref nw, .ref kp, .ref ik, .ref mr, .long 0, .long 1, .ref mw, .long 0, .int 0, .int 0, .long 0, .long 0, .ref mq, .ref mz, .ref my, .int 0, .ref mb, .int 0, .int 0, .int 0, .int 0, .int 0, .ref mx, .ref mv])), (nw, .inl (cn, 350, .inl (fun _ => 0))), (mr, .inl (cm, 3, .inl (fun _ => 0)))] sz)) 0 0 (va_A [(mo, .inr (12, [.ref nw, .ref kp, .ref ik, .ref mr, .long 0, .long 1, .ref mw, .long 0, .int 0, .int 0, .long 0, .long 0, .ref mq, .ref mz, .ref my, .int 0, .ref mb, .int 0, .int 0, .int 0, .int 0, .int 0, .ref mx, .ref mv])), (nw, .inl (cn, 350, .inl (fun _ => 0))), (mr, .inl (cm, 3, .inl (fun _ => 0)))] sz) := by
  refine Met.ofW (cc := cX12_plan) (maxL := 12) (ret := (some .int)) (by decide) rfl ?_
  intro p e s m args below meth c s₁ B hml hv
  obtain ⟨rfl, hsz, hP, hK, hD0⟩ := hv
  have hx := B.exec
  have hb := B.bytes
  have hr := B.returns
  have hts := atoms_spec (ws := wsX12_plan) B.pre
  have hown : s.vm.findClass RX12 = some m.cls := findClass_of_methodNamed B.named
  have hlocks := B.notSynchronized
  subst hsz
  have hD := hD0.self (sz := s.heap.size)
  generalize hAe : va_A [(mo, .inr (12, [.ref nw, .ref kp, .ref ik, .ref mr, .long 0, .long 1, .ref mw, .long 0, .int 0, .int 0, .long 0, .long 0, .ref mq, .ref mz, .ref my, .int 0, .ref mb, .int 0, .int 0, .int 0, .int 0, .int 0, .ref mx, .ref mv])), (nw, .inl (cn, 350, .inl (fun _ => 0))), (mr, .inl (cm, 3, .inl (fun _ => 0)))] s.heap.size = A at hD ⊢
  have hA : ∀ q : Nat, s.heap.size ≤ q → A q := fun q h => by rw [← hAe]; exact Or.inr h
  have hS : va_S A s.heap s.heap [] := va_S.rf
  have hP : va_P (dC, dI) vwCl [(mo, .inr (12, [.ref nw, .ref kp, .ref ik, .ref mr, .long 0, .long 1, .ref mw, .long 0, .int 0, .int 0, .long 0, .long 0, .ref mq, .ref mz, .ref my, .int 0, .ref mb, .int 0, .int 0, .int 0, .int 0, .int 0, .ref mx, .ref mv])), (nw, .inl (cn, 350, .inl (fun _ => 0))), (mr, .inl (cm, 3, .inl (fun _ => 0)))] s.heap := hP
  have hl := lv_entry ([.ref mo, .int na, .int nb]) (n := 12) (Nat.le_of_ble_eq_true rfl)
  rw [lg_entry_eq]
  generalize (lg_sl ([.ref mo, .int na, .int nb]) ++ List.replicate (12 - (lg_sl ([.ref mo, .int na, .int nb])).length) Slot.unset).toArray = ls at hl ⊢
  have hl : lv_has ls 12 [(0, .ref mo), (1, .int na), (2, .int nb)] := hl
  refine lv_aload_n hx hb dX12_plan_0 rfl (lv_at hl 0 rfl) ?_
  refine lv_iload_n hx hb dX12_plan_1 rfl (lv_at hl 1 rfl) ?_
  have hPc_1 := hP.sub (ws' := [(mo, .inr (12, [.ref nw, .ref kp, .ref ik, .ref mr, .long 0, .long 1, .ref mw, .long 0, .int 0, .int 0, .long 0, .long 0, .ref mq, .ref mz, .ref my, .int 0, .ref mb, .int 0, .int 0, .int 0, .int 0, .int 0, .ref mx, .ref mv])), (nw, .inl (cn, 350, .inl (fun _ => 0)))]) [0, 1] rfl
  have hKc_2 := hK.sub (tys' := [(cn, .int)]) [0] rfl
  refine vp_callSi (va_Run.run (va_runV (As := [.int na]) (rest := []) ⟨hx, hb, hml, hown, hts⟩ (k_m_isBundle l dC dI mo nw kp ik mr mw mq mz my mb mx mv cn na) (cwV 1 hts gX12_plan_X12_isBundle rfl rfl rfl (by decide +kernel) ⟨Nat.le_of_ble_eq_true rfl, Nat.le_of_ble_eq_true rfl⟩) ⟨fun a U g mk q => by obtain ⟨q0, qP, qK⟩ := q; exact ⟨q0, qP, va_K.moved (u := U) (U := U.calling g mk a) (Vm.Alike.refl U.vm) qK⟩, va_recv hK hP (ci := 12) (q0 := 0) rfl rfl, fun U hU hW => ⟨rfl, by rw [hU]; exact hPc_1, va_K.moved hW.alike hKc_2⟩⟩ rfl rfl hl.1 rfl (lv_room (Nat.le_of_ble_eq_true rfl)) dX12_plan_2 ⟨Nat.le_of_ble_eq_true rfl, Nat.le_of_ble_eq_true rfl⟩)) (fun r_3 hw_4 => ?_)
  obtain rfl : 0 = r_3 := hw_4.symm
  refine lv_if_eq (tgt := 20) hx hb dX12_plan_5 (by decide) (fun c_5 => ?_) (fun c_5 => ?_)
  · refine lv_aload_n hx hb dX12_plan_20 rfl (lv_at hl 0 rfl) ?_
    refine lv_bipush (v := (-2)) hx hb dX12_plan_21 (by decide) ?_
    have hPc := hP.sub (ws' := [(mo, .inr (12, [.ref nw, .ref kp, .ref ik, .ref mr, .long 0, .long 1, .ref mw, .long 0, .int 0, .int 0, .long 0, .long 0, .ref mq, .ref mz, .ref my, .int 0, .ref mb, .int 0, .int 0, .int 0, .int 0, .int 0, .ref mx, .ref mv])), (mr, .inl (cm, 3, .inl (fun _ => 0)))]) [0, 2] rfl
    have hDc := hD.sub (ws' := [(mo, .inr (12, [.ref nw, .ref kp, .ref ik, .ref mr, .long 0, .long 1, .ref mw, .long 0, .int 0, .int 0, .long 0, .long 0, .ref mq, .ref mz, .ref my, .int 0, .ref mb, .int 0, .int 0, .int 0, .int 0, .int 0, .ref mx, .ref mv])), (mr, .inl (cm, 3, .inl (fun _ => 0)))]) [0, 2] (by decide) rfl
    have hKc := hK.sub (tys' := [(cm, .int)]) [1] rfl
    have hFc := va_free (wc := [(mo, .inr (12, [.ref nw, .ref kp, .ref ik, .ref mr, .long 0, .long 1, .ref mw, .long 0, .int 0, .int 0, .long 0, .long 0, .ref mq, .ref mz, .ref my, .int 0, .ref mb, .int 0, .int 0, .int 0, .int 0, .int 0, .ref mx, .ref mv])), (mr, .inl (cm, 3, .inl (fun _ => 0)))]) hD hS hA [0, 2] rfl
    refine va_calli (va_runV (As := [.int (-2)]) (rest := []) ⟨hx, hb, hml, hown, hts⟩ (k_bad l dC dI mo nw kp ik mr mw mq mz my mb mx mv cm (-2) s.heap.size) (cwV 1 hts gX12_plan_X12_bad rfl rfl rfl (by decide +kernel) ⟨Nat.le_of_ble_eq_true rfl, Nat.le_of_ble_eq_true rfl⟩) ⟨fun a U g mk q => by obtain ⟨q0, q1, qP, qK, qD⟩ := q; exact ⟨q0, q1, qP, va_K.moved (u := U) (U := U.calling g mk a) (Vm.Alike.refl U.vm) qK, qD⟩, va_recv hK hP (ci := 12) (q0 := 0) rfl rfl, fun U hU hW => ⟨rfl, by rw [hU], by rw [hU]; exact hPc, va_K.moved hW.alike hKc, hDc.weaken (fun _ _ _ _ => trivial)⟩⟩ rfl rfl hl.1 rfl (lv_room (Nat.le_of_ble_eq_true rfl)) dX12_plan_23 ⟨Nat.le_of_ble_eq_true rfl, Nat.le_of_ble_eq_true rfl⟩) hS (fun q _ h => hFc q h) hFc (fun r_6 u_ t H1 locs ht hvm hw_7 hB hz1 hk1 hS => ?_)
    obtain ⟨hP, hD⟩ := va_join (wr := [(nw, .inl (cn, 350, .inl (fun _ => 0)))]) (w1 := []) hP hD [0, 2] [1] rfl rfl (by decide) (by decide) hk1 hFc tz_P0 tz_D0
    generalize H1 = H at hP hS ⊢
    have hP : va_P (dC, dI) vwCl [(nw, .inl (cn, 350, .inl (fun _ => 0)))] H := hP
    have hD : va_D A [(nw, .inl (cn, 350, .inl (fun _ => 0)))] := hD
    obtain rfl : (-2) = r_6 := hw_7.symm
    exact W.iret (v := (-2)) hx hb hr (fun t ht hW => ⟨⟨(-2), (), rfl, rfl, trivial⟩, hS.F ht⟩) hS.2.2 dX12_plan_26
  · exact absurd c_5 (by decide)
set_option maxRecDepth 20000 in
theorem ggX12_undo_X12_no : GoodIn wsX12_undo wsX12_no := goodIn_r _ [6, 7, 8, 9, 10, 11, 12, 13, 14, 15, 16, 17, 18, 19, 20, 21, 22, 23, 24, 25, 26, 27, 28, 29, 30, 31] (by decide +kernel) (by decide +kernel)
set_option maxRecDepth 20000 in
theorem gX12_undo_X12_no : GoodIn wsX12_undo (wsV RX12 113 RX12 yX12_no wsX12_no) := goodIn_app (goodIn_of _ (by decide +kernel)) ggX12_undo_X12_no
theorem dX12_undo_0 : decode cX12_undo 0 = .ok (.aload_n 0, 1) := by decide +kernel
theorem dX12_undo_1 : decode cX12_undo 1 = .ok (.getfield 7, 3) := by decide +kernel
theorem dX12_undo_4 : decode cX12_undo 4 = .ok (.iconst 4, 1) := by decide +kernel
theorem dX12_undo_5 : decode cX12_undo 5 = .ok (.iaload, 1) := by decide +kernel
theorem dX12_undo_6 : decode cX12_undo 6 = .ok (.ifCond .ne 8, 3) := by decide +kernel
theorem dX12_undo_9 : decode cX12_undo 9 = .ok (.aload_n 0, 1) := by decide +kernel
theorem dX12_undo_10 : decode cX12_undo 10 = .ok (.invokevirtual 113, 3) := by decide +kernel
theorem dX12_undo_13 : decode cX12_undo 13 = .ok (.ireturn, 1) := by decide +kernel
set_option maxRecDepth 20000 in
theorem iw_k_m_undo_X12 : ∀ w ∈ wsX120, w ∈ wsX12_undo := by decide +kernel
set_option maxHeartbeats 4000000 in
set_option maxRecDepth 100000 in
theorem k_m_undo (l : Launch) (dC : Nat → ClassId) (dI : Nat → Nat → Nat) (mo : Nat) (nw : Nat) (kp : Nat) (ik : Nat) (mr : Nat) (mw : Nat) (mq : Nat) (mz : Nat) (my : Nat) (mb : Nat) (mx : Nat) (mv : Nat) (cn : ClassId) (cm : ClassId) (sz : Nat) : Met l yX12_undo wsX12_undo ({ frames := 1, cells := 0, slots := 0, locals := 20 }) (va_Pc [.ref mo] (fun U => U.heap.size = sz ∧ va_P (dC, dI) vwCl [(mo, .inr (12, [.ref nw, .ref kp, .ref ik, .ref mr, .long 0, .long 1, .ref mw, .long 0, .int 0, .int 0, .long 0, .long 0, .ref mq, .ref mz, .ref my, .int 0, .ref mb, .int 0, .int 0, .int 0, .int 0, .int 0, .ref mx, .ref mv])), (nw, .inl (cn, 350, .inl (fun _ => 0))), (mr, .inl (cm, 3, .inl (fun _ => 0)))] U.heap ∧ va_K (dC, dI) vwCl [(cn, .int), (cm, .int)] U ∧ va_D (fun _ => True) [(mo, .inr (12, [.ref nw, .ref kp, .ref ik, .ref mr, .long 0, .long 1, .ref mw, .long 0, .int 0, .int 0, .long 0, .long 0, .ref mq, .ref mz, .ref my, .int 0, .ref mb, .int 0, .int 0, .int 0, .int 0, .int 0, .ref mx, .ref mv])), (nw, .inl (cn, 350, .inl (fun _ => 0))), (mr, .inl (cm, 3, .inl (fun _ => 0)))])) (va_Qi (fun (r : Int32) (_ : Unit) => r = (-3)) (fun _ _ => True) (va_A [(mo, .inr (12, [.ref nw, .ref kp, .ref ik, .ref mr, .long 0, .long 1, .ref mw, .long 0, .int 0, .int 0, .long 0, .long 0, .ref mq, .ref mz, .ref my, .int 0, .ref mb, .int 0, .int 0, .int 0, .int 0, .int 0, .ref mx, .ref mv])), (nw, .inl (cn, 350, .inl (fun _ => 0))), (mr, .inl (cm, 3, .inl (fun _ => 0)))] sz)) 0 0 (va_A [(mo, .inr (12, [.ref nw, .ref kp, .ref ik, .ref mr, .long 0, .long 1, .ref mw, .long 0, .int 0, .int 0, .long 0, .long 0, .ref mq, .ref mz, .ref my, .int 0, .ref mb, .int 0, .int 0, .int 0, .int 0, .int 0, .ref mx, .ref mv])), (nw, .inl (cn, 350, .inl (fun _ => 0))), (mr, .inl (cm, 3, .inl (fun _ => 0)))] sz) := by
  refine Met.ofW (cc := cX12_undo) (maxL := 3) (ret := (some .int)) (by decide) rfl ?_
  intro p e s m args below meth c s₁ B hml hv
  obtain ⟨rfl, hsz, hP, hK, hD0⟩ := hv
  have hx := B.exec
  have hb := B.bytes
  have hr := B.returns
  have hts := atoms_spec (ws := wsX12_undo) B.pre
  have hown : s.vm.findClass RX12 = some m.cls := findClass_of_methodNamed B.named
  have hlocks := B.notSynchronized
  subst hsz
  have hD := hD0.self (sz := s.heap.size)
  generalize hAe : va_A [(mo, .inr (12, [.ref nw, .ref kp, .ref ik, .ref mr, .long 0, .long 1, .ref mw, .long 0, .int 0, .int 0, .long 0, .long 0, .ref mq, .ref mz, .ref my, .int 0, .ref mb, .int 0, .int 0, .int 0, .int 0, .int 0, .ref mx, .ref mv])), (nw, .inl (cn, 350, .inl (fun _ => 0))), (mr, .inl (cm, 3, .inl (fun _ => 0)))] s.heap.size = A at hD ⊢
  have hA : ∀ q : Nat, s.heap.size ≤ q → A q := fun q h => by rw [← hAe]; exact Or.inr h
  have hS : va_S A s.heap s.heap [] := va_S.rf
  have hP : va_P (dC, dI) vwCl [(mo, .inr (12, [.ref nw, .ref kp, .ref ik, .ref mr, .long 0, .long 1, .ref mw, .long 0, .int 0, .int 0, .long 0, .long 0, .ref mq, .ref mz, .ref my, .int 0, .ref mb, .int 0, .int 0, .int 0, .int 0, .int 0, .ref mx, .ref mv])), (nw, .inl (cn, 350, .inl (fun _ => 0))), (mr, .inl (cm, 3, .inl (fun _ => 0)))] s.heap := hP
  have hl := lv_entry ([.ref mo]) (n := 3) (Nat.le_of_ble_eq_true rfl)
  rw [lg_entry_eq]
  generalize (lg_sl ([.ref mo]) ++ List.replicate (3 - (lg_sl ([.ref mo])).length) Slot.unset).toArray = ls at hl ⊢
  have hl : lv_has ls 3 [(0, .ref mo)] := hl
  refine lv_aload_n hx hb dX12_undo_0 rfl (lv_at hl 0 rfl) ?_
  refine va_get (D := (dC, dI)) (ci := 12) (v := .ref nw) (C := RX12) (T := TX12) (N := 24) hx hb hts iw_k_m_undo_X12 hown hK hP 0 rfl rfl 0 (by decide) (hts (.fieldLink RX12 7 "ThriceCountedModel" "now" "[I") (by decide +kernel)) (fun _ h9 => h9) rfl dX12_undo_1 ?_
  refine lv_iconst (v := 4) hx hb dX12_undo_4 (by decide) ?_
  refine va_iald hx hb hK hP 1 0 rfl rfl (show ¬ ((4 : Int32) < 0 ∨ 350 ≤ (4 : Int32).toNatClampNeg) by decide) dX12_undo_5 ?_
  refine tz_i 0 rfl ?_
  refine lv_if_ne (tgt := 14) hx hb dX12_undo_6 (by decide) (fun c_1 => ?_) (fun c_1 => ?_)
  · exact absurd c_1 (by decide)
  · refine lv_aload_n hx hb dX12_undo_9 rfl (lv_at hl 0 rfl) ?_
    have hPc := hP.sub (ws' := [(mo, .inr (12, [.ref nw, .ref kp, .ref ik, .ref mr, .long 0, .long 1, .ref mw, .long 0, .int 0, .int 0, .long 0, .long 0, .ref mq, .ref mz, .ref my, .int 0, .ref mb, .int 0, .int 0, .int 0, .int 0, .int 0, .ref mx, .ref mv])), (mr, .inl (cm, 3, .inl (fun _ => 0)))]) [0, 2] rfl
    have hDc := hD.sub (ws' := [(mo, .inr (12, [.ref nw, .ref kp, .ref ik, .ref mr, .long 0, .long 1, .ref mw, .long 0, .int 0, .int 0, .long 0, .long 0, .ref mq, .ref mz, .ref my, .int 0, .ref mb, .int 0, .int 0, .int 0, .int 0, .int 0, .ref mx, .ref mv])), (mr, .inl (cm, 3, .inl (fun _ => 0)))]) [0, 2] (by decide) rfl
    have hKc := hK.sub (tys' := [(cm, .int)]) [1] rfl
    have hFc := va_free (wc := [(mo, .inr (12, [.ref nw, .ref kp, .ref ik, .ref mr, .long 0, .long 1, .ref mw, .long 0, .int 0, .int 0, .long 0, .long 0, .ref mq, .ref mz, .ref my, .int 0, .ref mb, .int 0, .int 0, .int 0, .int 0, .int 0, .ref mx, .ref mv])), (mr, .inl (cm, 3, .inl (fun _ => 0)))]) hD hS hA [0, 2] rfl
    refine va_calli (va_runV (As := []) (rest := []) ⟨hx, hb, hml, hown, hts⟩ (k_no l dC dI mo nw kp ik mr mw mq mz my mb mx mv cm s.heap.size) (cwV 0 hts gX12_undo_X12_no rfl rfl rfl (by decide +kernel) ⟨Nat.le_of_ble_eq_true rfl, Nat.le_of_ble_eq_true rfl⟩) ⟨fun a U g mk q => by obtain ⟨q0, q1, qP, qK, qD⟩ := q; exact ⟨q0, q1, qP, va_K.moved (u := U) (U := U.calling g mk a) (Vm.Alike.refl U.vm) qK, qD⟩, va_recv hK hP (ci := 12) (q0 := 0) rfl rfl, fun U hU hW => ⟨rfl, by rw [hU], by rw [hU]; exact hPc, va_K.moved hW.alike hKc, hDc.weaken (fun _ _ _ _ => trivial)⟩⟩ rfl rfl hl.1 rfl (lv_room (Nat.le_of_ble_eq_true rfl)) dX12_undo_10 ⟨Nat.le_of_ble_eq_true rfl, Nat.le_of_ble_eq_true rfl⟩) hS (fun q _ h => hFc q h) hFc (fun r_2 u_ t H1 locs ht hvm hw_3 hB hz1 hk1 hS => ?_)
    obtain ⟨hP, hD⟩ := va_join (wr := [(nw, .inl (cn, 350, .inl (fun _ => 0)))]) (w1 := []) hP hD [0, 2] [1] rfl rfl (by decide) (by decide) hk1 hFc tz_P0 tz_D0
    generalize H1 = H at hP hS ⊢
    have hP : va_P (dC, dI) vwCl [(nw, .inl (cn, 350, .inl (fun _ => 0)))] H := hP
    have hD : va_D A [(nw, .inl (cn, 350, .inl (fun _ => 0)))] := hD
    obtain rfl : (-3) = r_2 := hw_3.symm
    exact W.iret (v := (-3)) hx hb hr (fun t ht hW => ⟨⟨(-3), (), rfl, rfl, trivial⟩, hS.F ht⟩) hS.2.2 dX12_undo_13
set_option maxRecDepth 20000 in
theorem ggX12_type_X12_in : GoodIn wsX12_type wsX12_in := goodIn_r _ [7] (by decide +kernel) (by decide +kernel)
set_option maxRecDepth 20000 in
theorem gX12_type_X12_in : GoodIn wsX12_type (va_wsS RX12 49 yX12_in wsX12_in) := goodIn_app (goodIn_of _ (by decide +kernel)) ggX12_type_X12_in
set_option maxRecDepth 20000 in
theorem ggX12_type_X12_bad : GoodIn wsX12_type wsX12_bad := goodIn_r _ [11, 12, 17, 18, 19, 20, 21, 22, 23, 24, 25, 26, 27, 28, 29, 30, 31, 32, 33, 34, 35, 36, 37, 38, 39, 40] (by decide +kernel) (by decide +kernel)
set_option maxRecDepth 20000 in
theorem gX12_type_X12_bad : GoodIn wsX12_type (wsV RX12 61 RX12 yX12_bad wsX12_bad) := goodIn_app (goodIn_of _ (by decide +kernel)) ggX12_type_X12_bad
theorem dX12_type_0 : decode cX12_type 0 = .ok (.iload_n 1, 1) := by decide +kernel
theorem dX12_type_1 : decode cX12_type 1 = .ok (.i2l, 1) := by decide +kernel
theorem dX12_type_2 : decode cX12_type 2 = .ok (.lconst 0, 1) := by decide +kernel
theorem dX12_type_3 : decode cX12_type 3 = .ok (.ldc2_w 251, 3) := by decide +kernel
theorem dX12_type_6 : decode cX12_type 6 = .ok (.invokestatic 49, 3) := by decide +kernel
theorem dX12_type_9 : decode cX12_type 9 = .ok (.ifCond .ne 10, 3) := by decide +kernel
theorem dX12_type_19 : decode cX12_type 19 = .ok (.aload_n 0, 1) := by decide +kernel
theorem dX12_type_20 : decode cX12_type 20 = .ok (.getfield 253, 3) := by decide +kernel
theorem dX12_type_23 : decode cX12_type 23 = .ok (.sipush 150, 3) := by decide +kernel
theorem dX12_type_26 : decode cX12_type 26 = .ok (.if_icmp .ne 8, 3) := by decide +kernel
theorem dX12_type_34 : decode cX12_type 34 = .ok (.aload_n 0, 1) := by decide +kernel
theorem dX12_type_35 : decode cX12_type 35 = .ok (.getfield 40, 3) := by decide +kernel
theorem dX12_type_38 : decode cX12_type 38 = .ok (.aload_n 0, 1) := by decide +kernel
theorem dX12_type_39 : decode cX12_type 39 = .ok (.getfield 253, 3) := by decide +kernel
theorem dX12_type_42 : decode cX12_type 42 = .ok (.iload_n 1, 1) := by decide +kernel
theorem dX12_type_43 : decode cX12_type 43 = .ok (.iastore, 1) := by decide +kernel
theorem dX12_type_44 : decode cX12_type 44 = .ok (.aload_n 0, 1) := by decide +kernel
theorem dX12_type_45 : decode cX12_type 45 = .ok (.dup, 1) := by decide +kernel
theorem dX12_type_46 : decode cX12_type 46 = .ok (.getfield 253, 3) := by decide +kernel
theorem dX12_type_49 : decode cX12_type 49 = .ok (.iconst 1, 1) := by decide +kernel
theorem dX12_type_50 : decode cX12_type 50 = .ok (.iadd, 1) := by decide +kernel
theorem dX12_type_51 : decode cX12_type 51 = .ok (.putfield 253, 3) := by decide +kernel
theorem dX12_type_54 : decode cX12_type 54 = .ok (.aload_n 0, 1) := by decide +kernel
theorem dX12_type_55 : decode cX12_type 55 = .ok (.getfield 253, 3) := by decide +kernel
theorem dX12_type_58 : decode cX12_type 58 = .ok (.ireturn, 1) := by decide +kernel
theorem dX12_type_12 : decode cX12_type 12 = .ok (.aload_n 0, 1) := by decide +kernel
theorem dX12_type_13 : decode cX12_type 13 = .ok (.bipush (-2), 2) := by decide +kernel
theorem dX12_type_15 : decode cX12_type 15 = .ok (.invokevirtual 61, 3) := by decide +kernel
theorem dX12_type_18 : decode cX12_type 18 = .ok (.ireturn, 1) := by decide +kernel
set_option maxRecDepth 20000 in
theorem iw_k_m_type_X12 : ∀ w ∈ wsX120, w ∈ wsX12_type := by decide +kernel
set_option maxHeartbeats 4000000 in
set_option maxRecDepth 100000 in
theorem k_m_type (l : Launch) (dC : Nat → ClassId) (dI : Nat → Nat → Nat) (mo : Nat) (nw : Nat) (kp : Nat) (ik : Nat) (mr : Nat) (mw : Nat) (mq : Nat) (mz : Nat) (my : Nat) (mb : Nat) (mx : Nat) (mv : Nat) (cb : ClassId) (cm : ClassId) (na : Int32) (sz : Nat) : Met l yX12_type wsX12_type ({ frames := 1, cells := 0, slots := 0, locals := 25 }) (va_Pc [.ref mo, .int na] (fun U => U.heap.size = sz ∧ va_P (dC, dI) vwCl [(mo, .inr (12, [.ref nw, .ref kp, .ref ik, .ref mr, .long 0, .long 1, .ref mw, .long 0, .int 0, .int 0, .long 0, .long 0, .ref mq, .ref mz, .ref my, .int 0, .ref mb, .int 0, .int 0, .int 0, .int 0, .int 0, .ref mx, .ref mv])), (mb, .inl (cb, 150, .inl (fun _ => 0))), (mr, .inl (cm, 3, .inl (fun _ => 0)))] U.heap ∧ va_K (dC, dI) vwCl [(cb, .int), (cm, .int)] U ∧ va_D (fun _ => True) [(mo, .inr (12, [.ref nw, .ref kp, .ref ik, .ref mr, .long 0, .long 1, .ref mw, .long 0, .int 0, .int 0, .long 0, .long 0, .ref mq, .ref mz, .ref my, .int 0, .ref mb, .int 0, .int 0, .int 0, .int 0, .int 0, .ref mx, .ref mv])), (mb, .inl (cb, 150, .inl (fun _ => 0))), (mr, .inl (cm, 3, .inl (fun _ => 0)))])) (va_Qi (fun (r : Int32) (_ : Unit) => r = (if 0 ≤ na ∧ na ≤ 127 then 1 else (-2))) (fun _ _ => True) (va_A [(mo, .inr (12, [.ref nw, .ref kp, .ref ik, .ref mr, .long 0, .long 1, .ref mw, .long 0, .int 0, .int 0, .long 0, .long 0, .ref mq, .ref mz, .ref my, .int 0, .ref mb, .int 0, .int 0, .int 0, .int 0, .int 0, .ref mx, .ref mv])), (mb, .inl (cb, 150, .inl (fun _ => 0))), (mr, .inl (cm, 3, .inl (fun _ => 0)))] sz)) 0 0 (va_A [(mo, .inr (12, [.ref nw, .ref kp, .ref ik, .ref mr, .long 0, .long 1, .ref mw, .long 0, .int 0, .int 0, .long 0, .long 0, .ref mq, .ref mz, .ref my, .int 0, .ref mb, .int 0, .int 0, .int 0, .int 0, .int 0, .ref mx, .ref mv])), (mb, .inl (cb, 150, .inl (fun _ => 0))), (mr, .inl (cm, 3, .inl (fun _ => 0)))] sz) := by
  refine Met.ofW (cc := cX12_type) (maxL := 2) (ret := (some .int)) (by decide) rfl ?_
  intro p e s m args below meth c s₁ B hml hv
  obtain ⟨rfl, hsz, hP, hK, hD0⟩ := hv
  have hx := B.exec
  have hb := B.bytes
  have hr := B.returns
  have hts := atoms_spec (ws := wsX12_type) B.pre
  have hown : s.vm.findClass RX12 = some m.cls := findClass_of_methodNamed B.named
  have hlocks := B.notSynchronized
  subst hsz
  have hD := hD0.self (sz := s.heap.size)
  generalize hAe : va_A [(mo, .inr (12, [.ref nw, .ref kp, .ref ik, .ref mr, .long 0, .long 1, .ref mw, .long 0, .int 0, .int 0, .long 0, .long 0, .ref mq, .ref mz, .ref my, .int 0, .ref mb, .int 0, .int 0, .int 0, .int 0, .int 0, .ref mx, .ref mv])), (mb, .inl (cb, 150, .inl (fun _ => 0))), (mr, .inl (cm, 3, .inl (fun _ => 0)))] s.heap.size = A at hD ⊢
  have hA : ∀ q : Nat, s.heap.size ≤ q → A q := fun q h => by rw [← hAe]; exact Or.inr h
  have hS : va_S A s.heap s.heap [] := va_S.rf
  have hP : va_P (dC, dI) vwCl [(mo, .inr (12, [.ref nw, .ref kp, .ref ik, .ref mr, .long 0, .long 1, .ref mw, .long 0, .int 0, .int 0, .long 0, .long 0, .ref mq, .ref mz, .ref my, .int 0, .ref mb, .int 0, .int 0, .int 0, .int 0, .int 0, .ref mx, .ref mv])), (mb, .inl (cb, 150, .inl (fun _ => 0))), (mr, .inl (cm, 3, .inl (fun _ => 0)))] s.heap := hP
  have hl := lv_entry ([.ref mo, .int na]) (n := 2) (Nat.le_of_ble_eq_true rfl)
  rw [lg_entry_eq]
  generalize (lg_sl ([.ref mo, .int na]) ++ List.replicate (2 - (lg_sl ([.ref mo, .int na])).length) Slot.unset).toArray = ls at hl ⊢
  have hl : lv_has ls 2 [(0, .ref mo), (1, .int na)] := hl
  refine lv_iload_n hx hb dX12_type_0 rfl (lv_at hl 1 rfl) ?_
  refine lv_i2l (v := na.toInt64) hx hb dX12_type_1 rfl ?_
  refine lv_lconst (v := 0) hx hb dX12_type_2 (by decide) ?_
  refine lv_ldc2 hx hb hown (hts (.constantLong RX12 251 (127)) (by decide +kernel)) dX12_type_3 ?_
  refine vp_callSi (va_Run.run (va_runS (As := [.long na.toInt64, .long 0, .long 127]) (rest := []) ⟨hx, hb, hml, hown, hts⟩ (k_in l dC dI na.toInt64 0 127) (va_cwS 3 hts gX12_type_X12_in rfl rfl rfl (by decide +kernel) ⟨Nat.le_of_ble_eq_true rfl, Nat.le_of_ble_eq_true rfl⟩) ⟨fun a U g mk q => ⟨q.1, trivial⟩, fun U hU hW => ⟨rfl, trivial⟩⟩ rfl rfl hl.1 rfl (lv_room (Nat.le_of_ble_eq_true rfl)) dX12_type_6 ⟨Nat.le_of_ble_eq_true rfl, Nat.le_of_ble_eq_true rfl⟩)) (fun r_1 hw_2 => ?_)
  by_cases hc_3 : 0 ≤ na ∧ na ≤ 127
  · obtain rfl : 1 = r_1 := (hw_2.trans (if_pos ((tz_in64 (by first | rfl | decide) rfl (by first | rfl | decide)).mpr hc_3))).symm
    refine lv_if_ne (tgt := 19) hx hb dX12_type_9 (by decide) (fun c_4 => ?_) (fun c_4 => ?_)
    · refine lv_aload_n hx hb dX12_type_19 rfl (lv_at hl 0 rfl) ?_
      refine va_get (D := (dC, dI)) (ci := 12) (v := .int 0) (C := RX12) (T := TX12) (N := 24) hx hb hts iw_k_m_type_X12 hown hK hP 0 rfl rfl 17 (by decide) (hts (.fieldLink RX12 253 "ThriceCountedModel" "bytesLong" "I") (by decide +kernel)) (fun _ h9 => h9) rfl dX12_type_20 ?_
      refine lv_sipush (v := 150) hx hb dX12_type_23 (by decide) ?_
      refine lv_icmp_ne (tgt := 34) hx hb dX12_type_26 (by decide) (fun c_5 => ?_) (fun c_5 => ?_)
      · refine lv_aload_n hx hb dX12_type_34 rfl (lv_at hl 0 rfl) ?_
        refine va_get (D := (dC, dI)) (ci := 12) (v := .ref mb) (C := RX12) (T := TX12) (N := 24) hx hb hts iw_k_m_type_X12 hown hK hP 0 rfl rfl 16 (by decide) (hts (.fieldLink RX12 40 "ThriceCountedModel" "bytes" "[I") (by decide +kernel)) (fun _ h9 => h9) rfl dX12_type_35 ?_
        refine lv_aload_n hx hb dX12_type_38 rfl (lv_at hl 0 rfl) ?_
        refine va_get (D := (dC, dI)) (ci := 12) (v := .int 0) (C := RX12) (T := TX12) (N := 24) hx hb hts iw_k_m_type_X12 hown hK hP 0 rfl rfl 17 (by decide) (hts (.fieldLink RX12 253 "ThriceCountedModel" "bytesLong" "I") (by decide +kernel)) (fun _ h9 => h9) rfl dX12_type_39 ?_
        refine lv_iload_n hx hb dX12_type_42 rfl (lv_at hl 1 rfl) ?_
        refine va_iast hx hb hK hP hD hS 1 0 rfl rfl (show ¬ ((0 : Int32) < 0 ∨ 150 ≤ (0 : Int32).toNatClampNeg) by decide) dX12_type_43 (fun H locs hP hD hS => ?_)
        generalize (upd (fun _ => 0) (Int32.toNatClampNeg 0) na) = f_6 at hP hD
        have hP : va_P (dC, dI) vwCl [(mo, .inr (12, [.ref nw, .ref kp, .ref ik, .ref mr, .long 0, .long 1, .ref mw, .long 0, .int 0, .int 0, .long 0, .long 0, .ref mq, .ref mz, .ref my, .int 0, .ref mb, .int 0, .int 0, .int 0, .int 0, .int 0, .ref mx, .ref mv])), (mb, .inl (cb, 150, .inl f_6)), (mr, .inl (cm, 3, .inl (fun _ => 0)))] H := hP
        have hD : va_D A [(mo, .inr (12, [.ref nw, .ref kp, .ref ik, .ref mr, .long 0, .long 1, .ref mw, .long 0, .int 0, .int 0, .long 0, .long 0, .ref mq, .ref mz, .ref my, .int 0, .ref mb, .int 0, .int 0, .int 0, .int 0, .int 0, .ref mx, .ref mv])), (mb, .inl (cb, 150, .inl f_6)), (mr, .inl (cm, 3, .inl (fun _ => 0)))] := hD
        refine lv_aload_n hx hb dX12_type_44 rfl (lv_at hl 0 rfl) ?_
        refine lv_dup hx hb dX12_type_45 rfl ?_
        refine va_get (D := (dC, dI)) (ci := 12) (v := .int 0) (C := RX12) (T := TX12) (N := 24) hx hb hts iw_k_m_type_X12 hown hK hP 0 rfl rfl 17 (by decide) (hts (.fieldLink RX12 253 "ThriceCountedModel" "bytesLong" "I") (by decide +kernel)) (fun _ h9 => h9) rfl dX12_type_46 ?_
        refine lv_iconst (v := 1) hx hb dX12_type_49 (by decide) ?_
        refine lv_iadd hx hb dX12_type_50 ?_
        refine tz_i 1 (by decide) ?_
        refine va_put (D := (dC, dI)) (ci := 12) (v := .int 1) (ty := .int) (C := RX12) (T := TX12) (N := 24) hx hb hts iw_k_m_type_X12 tyX12 tyX12_ok nmX12 hown hK hP hD hS 0 rfl rfl 17 (by decide) (hts (.fieldLink RX12 253 "ThriceCountedModel" "bytesLong" "I") (by decide +kernel)) (fun _ h9 => h9) rfl (by decide +kernel) rfl rfl (Nat.le_of_ble_eq_true rfl) dX12_type_51 (fun H locs hP hD hS => ?_)
        have hP : va_P (dC, dI) vwCl [(mo, .inr (12, [.ref nw, .ref kp, .ref ik, .ref mr, .long 0, .long 1, .ref mw, .long 0, .int 0, .int 0, .long 0, .long 0, .ref mq, .ref mz, .ref my, .int 0, .ref mb, .int 1, .int 0, .int 0, .int 0, .int 0, .ref mx, .ref mv])), (mb, .inl (cb, 150, .inl f_6)), (mr, .inl (cm, 3, .inl (fun _ => 0)))] H := hP
        have hD : va_D A [(mo, .inr (12, [.ref nw, .ref kp, .ref ik, .ref mr, .long 0, .long 1, .ref mw, .long 0, .int 0, .int 0, .long 0, .long 0, .ref mq, .ref mz, .ref my, .int 0, .ref mb, .int 1, .int 0, .int 0, .int 0, .int 0, .ref mx, .ref mv])), (mb, .inl (cb, 150, .inl f_6)), (mr, .inl (cm, 3, .inl (fun _ => 0)))] := hD
        refine lv_aload_n hx hb dX12_type_54 rfl (lv_at hl 0 rfl) ?_
        refine va_get (D := (dC, dI)) (ci := 12) (v := .int 1) (C := RX12) (T := TX12) (N := 24) hx hb hts iw_k_m_type_X12 hown hK hP 0 rfl rfl 17 (by decide) (hts (.fieldLink RX12 253 "ThriceCountedModel" "bytesLong" "I") (by decide +kernel)) (fun _ h9 => h9) rfl dX12_type_55 ?_
        exact W.iret (v := 1) hx hb hr (fun t ht hW => ⟨⟨1, (), rfl, (if_pos hc_3).symm, trivial⟩, hS.F ht⟩) hS.2.2 dX12_type_58
      · exact absurd c_5 (by decide)
    · exact absurd c_4 (by decide)
  · obtain rfl : 0 = r_1 := (hw_2.trans (if_neg (fun z => hc_3 ((tz_in64 (by first | rfl | decide) rfl (by first | rfl | decide)).mp z)))).symm
    refine lv_if_ne (tgt := 19) hx hb dX12_type_9 (by decide) (fun c_7 => ?_) (fun c_7 => ?_)
    · exact absurd c_7 (by decide)
    · refine lv_aload_n hx hb dX12_type_12 rfl (lv_at hl 0 rfl) ?_
      refine lv_bipush (v := (-2)) hx hb dX12_type_13 (by decide) ?_
      have hPc := hP.sub (ws' := [(mo, .inr (12, [.ref nw, .ref kp, .ref ik, .ref mr, .long 0, .long 1, .ref mw, .long 0, .int 0, .int 0, .long 0, .long 0, .ref mq, .ref mz, .ref my, .int 0, .ref mb, .int 0, .int 0, .int 0, .int 0, .int 0, .ref mx, .ref mv])), (mr, .inl (cm, 3, .inl (fun _ => 0)))]) [0, 2] rfl
      have hDc := hD.sub (ws' := [(mo, .inr (12, [.ref nw, .ref kp, .ref ik, .ref mr, .long 0, .long 1, .ref mw, .long 0, .int 0, .int 0, .long 0, .long 0, .ref mq, .ref mz, .ref my, .int 0, .ref mb, .int 0, .int 0, .int 0, .int 0, .int 0, .ref mx, .ref mv])), (mr, .inl (cm, 3, .inl (fun _ => 0)))]) [0, 2] (by decide) rfl
      have hKc := hK.sub (tys' := [(cm, .int)]) [1] rfl
      have hFc := va_free (wc := [(mo, .inr (12, [.ref nw, .ref kp, .ref ik, .ref mr, .long 0, .long 1, .ref mw, .long 0, .int 0, .int 0, .long 0, .long 0, .ref mq, .ref mz, .ref my, .int 0, .ref mb, .int 0, .int 0, .int 0, .int 0, .int 0, .ref mx, .ref mv])), (mr, .inl (cm, 3, .inl (fun _ => 0)))]) hD hS hA [0, 2] rfl
      refine va_calli (va_runV (As := [.int (-2)]) (rest := []) ⟨hx, hb, hml, hown, hts⟩ (k_bad l dC dI mo nw kp ik mr mw mq mz my mb mx mv cm (-2) s.heap.size) (cwV 1 hts gX12_type_X12_bad rfl rfl rfl (by decide +kernel) ⟨Nat.le_of_ble_eq_true rfl, Nat.le_of_ble_eq_true rfl⟩) ⟨fun a U g mk q => by obtain ⟨q0, q1, qP, qK, qD⟩ := q; exact ⟨q0, q1, qP, va_K.moved (u := U) (U := U.calling g mk a) (Vm.Alike.refl U.vm) qK, qD⟩, va_recv hK hP (ci := 12) (q0 := 0) rfl rfl, fun U hU hW => ⟨rfl, by rw [hU], by rw [hU]; exact hPc, va_K.moved hW.alike hKc, hDc.weaken (fun _ _ _ _ => trivial)⟩⟩ rfl rfl hl.1 rfl (lv_room (Nat.le_of_ble_eq_true rfl)) dX12_type_15 ⟨Nat.le_of_ble_eq_true rfl, Nat.le_of_ble_eq_true rfl⟩) hS (fun q _ h => hFc q h) hFc (fun r_8 u_ t H1 locs ht hvm hw_9 hB hz1 hk1 hS => ?_)
      obtain ⟨hP, hD⟩ := va_join (wr := [(mb, .inl (cb, 150, .inl (fun _ => 0)))]) (w1 := []) hP hD [0, 2] [1] rfl rfl (by decide) (by decide) hk1 hFc tz_P0 tz_D0
      generalize H1 = H at hP hS ⊢
      have hP : va_P (dC, dI) vwCl [(mb, .inl (cb, 150, .inl (fun _ => 0)))] H := hP
      have hD : va_D A [(mb, .inl (cb, 150, .inl (fun _ => 0)))] := hD
      obtain rfl : (-2) = r_8 := hw_9.symm
      exact W.iret (v := (-2)) hx hb hr (fun t ht hW => ⟨⟨(-2), (), rfl, (if_neg hc_3).symm, trivial⟩, hS.F ht⟩) hS.2.2 dX12_type_18
theorem dX12_clear_0 : decode cX12_clear 0 = .ok (.aload_n 0, 1) := by decide +kernel
theorem dX12_clear_1 : decode cX12_clear 1 = .ok (.getfield 253, 3) := by decide +kernel
theorem dX12_clear_4 : decode cX12_clear 4 = .ok (.istore_n 1, 1) := by decide +kernel
theorem dX12_clear_5 : decode cX12_clear 5 = .ok (.aload_n 0, 1) := by decide +kernel
theorem dX12_clear_6 : decode cX12_clear 6 = .ok (.iconst 0, 1) := by decide +kernel
theorem dX12_clear_7 : decode cX12_clear 7 = .ok (.putfield 253, 3) := by decide +kernel
theorem dX12_clear_10 : decode cX12_clear 10 = .ok (.iload_n 1, 1) := by decide +kernel
theorem dX12_clear_11 : decode cX12_clear 11 = .ok (.ireturn, 1) := by decide +kernel
set_option maxRecDepth 20000 in
theorem iw_k_m_clear_X12 : ∀ w ∈ wsX120, w ∈ wsX12_clear := by decide +kernel
set_option maxHeartbeats 4000000 in
set_option maxRecDepth 100000 in
theorem k_m_clear (l : Launch) (dC : Nat → ClassId) (dI : Nat → Nat → Nat) (mo : Nat) (nw : Nat) (kp : Nat) (ik : Nat) (mr : Nat) (mw : Nat) (mq : Nat) (mz : Nat) (my : Nat) (mb : Nat) (mx : Nat) (mv : Nat) (sz : Nat) : Met l yX12_clear wsX12_clear ({ frames := 0, cells := 0, slots := 0, locals := 0 }) (va_Pc [.ref mo] (fun U => U.heap.size = sz ∧ va_P (dC, dI) vwCl [(mo, .inr (12, [.ref nw, .ref kp, .ref ik, .ref mr, .long 0, .long 1, .ref mw, .long 0, .int 0, .int 0, .long 0, .long 0, .ref mq, .ref mz, .ref my, .int 0, .ref mb, .int 0, .int 0, .int 0, .int 0, .int 0, .ref mx, .ref mv]))] U.heap ∧ va_K (dC, dI) vwCl [] U ∧ va_D (fun _ => True) [(mo, .inr (12, [.ref nw, .ref kp, .ref ik, .ref mr, .long 0, .long 1, .ref mw, .long 0, .int 0, .int 0, .long 0, .long 0, .ref mq, .ref mz, .ref my, .int 0, .ref mb, .int 0, .int 0, .int 0, .int 0, .int 0, .ref mx, .ref mv]))])) (va_Qi (fun (r : Int32) (_ : Unit) => r = 0) (fun _ _ => True) (va_A [(mo, .inr (12, [.ref nw, .ref kp, .ref ik, .ref mr, .long 0, .long 1, .ref mw, .long 0, .int 0, .int 0, .long 0, .long 0, .ref mq, .ref mz, .ref my, .int 0, .ref mb, .int 0, .int 0, .int 0, .int 0, .int 0, .ref mx, .ref mv]))] sz)) 0 0 (va_A [(mo, .inr (12, [.ref nw, .ref kp, .ref ik, .ref mr, .long 0, .long 1, .ref mw, .long 0, .int 0, .int 0, .long 0, .long 0, .ref mq, .ref mz, .ref my, .int 0, .ref mb, .int 0, .int 0, .int 0, .int 0, .int 0, .ref mx, .ref mv]))] sz) := by
  refine Met.ofW (cc := cX12_clear) (maxL := 2) (ret := (some .int)) (by decide) rfl ?_
  intro p e s m args below meth c s₁ B hml hv
  obtain ⟨rfl, hsz, hP, hK, hD0⟩ := hv
  have hx := B.exec
  have hb := B.bytes
  have hr := B.returns
  have hts := atoms_spec (ws := wsX12_clear) B.pre
  have hown : s.vm.findClass RX12 = some m.cls := findClass_of_methodNamed B.named
  have hlocks := B.notSynchronized
  subst hsz
  have hD := hD0.self (sz := s.heap.size)
  generalize hAe : va_A [(mo, .inr (12, [.ref nw, .ref kp, .ref ik, .ref mr, .long 0, .long 1, .ref mw, .long 0, .int 0, .int 0, .long 0, .long 0, .ref mq, .ref mz, .ref my, .int 0, .ref mb, .int 0, .int 0, .int 0, .int 0, .int 0, .ref mx, .ref mv]))] s.heap.size = A at hD ⊢
  have hA : ∀ q : Nat, s.heap.size ≤ q → A q := fun q h => by rw [← hAe]; exact Or.inr h
  have hS : va_S A s.heap s.heap [] := va_S.rf
  have hP : va_P (dC, dI) vwCl [(mo, .inr (12, [.ref nw, .ref kp, .ref ik, .ref mr, .long 0, .long 1, .ref mw, .long 0, .int 0, .int 0, .long 0, .long 0, .ref mq, .ref mz, .ref my, .int 0, .ref mb, .int 0, .int 0, .int 0, .int 0, .int 0, .ref mx, .ref mv]))] s.heap := hP
  have hl := lv_entry ([.ref mo]) (n := 2) (Nat.le_of_ble_eq_true rfl)
  rw [lg_entry_eq]
  generalize (lg_sl ([.ref mo]) ++ List.replicate (2 - (lg_sl ([.ref mo])).length) Slot.unset).toArray = ls at hl ⊢
  have hl : lv_has ls 2 [(0, .ref mo)] := hl
  refine lv_aload_n hx hb dX12_clear_0 rfl (lv_at hl 0 rfl) ?_
  refine va_get (D := (dC, dI)) (ci := 12) (v := .int 0) (C := RX12) (T := TX12) (N := 24) hx hb hts iw_k_m_clear_X12 hown hK hP 0 rfl rfl 17 (by decide) (hts (.fieldLink RX12 253 "ThriceCountedModel" "bytesLong" "I") (by decide +kernel)) (fun _ h9 => h9) rfl dX12_clear_1 ?_
  refine lv_istore_n (lv' := [(1, .int 0), (0, .ref mo)]) hx hb dX12_clear_4 rfl hl (by decide) rfl (fun ls hl => ?_)
  refine lv_aload_n hx hb dX12_clear_5 rfl (lv_at hl 1 rfl) ?_
  refine lv_iconst (v := 0) hx hb dX12_clear_6 (by decide) ?_
  refine va_put (D := (dC, dI)) (ci := 12) (v := .int 0) (ty := .int) (C := RX12) (T := TX12) (N := 24) hx hb hts iw_k_m_clear_X12 tyX12 tyX12_ok nmX12 hown hK hP hD hS 0 rfl rfl 17 (by decide) (hts (.fieldLink RX12 253 "ThriceCountedModel" "bytesLong" "I") (by decide +kernel)) (fun _ h9 => h9) rfl (by decide +kernel) rfl rfl (Nat.le_of_ble_eq_true rfl) dX12_clear_7 (fun H locs hP hD hS => ?_)
  have hP : va_P (dC, dI) vwCl [(mo, .inr (12, [.ref nw, .ref kp, .ref ik, .ref mr, .long 0, .long 1, .ref mw, .long 0, .int 0, .int 0, .long 0, .long 0, .ref mq, .ref mz, .ref my, .int 0, .ref mb, .int 0, .int 0, .int 0, .int 0, .int 0, .ref mx, .ref mv]))] H := hP
  have hD : va_D A [(mo, .inr (12, [.ref nw, .ref kp, .ref ik, .ref mr, .long 0, .long 1, .ref mw, .long 0, .int 0, .int 0, .long 0, .long 0, .ref mq, .ref mz, .ref my, .int 0, .ref mb, .int 0, .int 0, .int 0, .int 0, .int 0, .ref mx, .ref mv]))] := hD
  refine lv_iload_n hx hb dX12_clear_10 rfl (lv_at hl 0 rfl) ?_
  exact W.iret (v := 0) hx hb hr (fun t ht hW => ⟨⟨0, (), rfl, rfl, trivial⟩, hS.F ht⟩) hS.2.2 dX12_clear_11
set_option maxRecDepth 20000 in
theorem ggX12_read_X12_lookAt : GoodIn wsX12_read wsX12_lookAt := goodIn_r _ [9, 1, 10, 11, 12, 2, 13, 14, 15, 8, 16, 17, 18, 19, 20, 21, 22, 23, 24, 25, 26, 79, 80, 81, 82, 83, 84, 85, 86, 87, 88, 89, 90, 91, 92, 93, 94, 95, 96, 97, 98, 99, 100, 101, 102] (by decide +kernel) (by decide +kernel)
set_option maxRecDepth 20000 in
theorem gX12_read_X12_lookAt : GoodIn wsX12_read (wsV RX12 282 RX12 yX12_lookAt wsX12_lookAt) := goodIn_app (goodIn_of _ (by decide +kernel)) ggX12_read_X12_lookAt
set_option maxRecDepth 20000 in
theorem ggX12_read_X12_readsFirst : GoodIn wsX12_read wsX12_readsFirst := goodIn_r _ [30, 4, 2, 31, 32, 33, 8, 34, 12, 11, 1, 35, 36, 37, 38, 5, 6, 7, 9, 10, 13, 14, 15, 16, 17, 18, 19, 20, 21, 22, 23, 24, 25, 26, 39, 40, 41, 79, 80, 81, 82, 83, 84, 85, 86, 87, 88, 89, 90, 91, 92, 93, 94, 95, 96, 97, 98, 99, 100, 101, 102] (by decide +kernel) (by decide +kernel)
set_option maxRecDepth 20000 in
theorem gX12_read_X12_readsFirst : GoodIn wsX12_read (wsV RX12 307 RX12 yX12_readsFirst wsX12_readsFirst) := goodIn_app (goodIn_of _ (by decide +kernel)) ggX12_read_X12_readsFirst
theorem dX12_read_0 : decode cX12_read 0 = .ok (.aload_n 0, 1) := by decide +kernel
theorem dX12_read_1 : decode cX12_read 1 = .ok (.iconst 0, 1) := by decide +kernel
theorem dX12_read_2 : decode cX12_read 2 = .ok (.invokevirtual 282, 3) := by decide +kernel
theorem dX12_read_5 : decode cX12_read 5 = .ok (.aload_n 0, 1) := by decide +kernel
theorem dX12_read_6 : decode cX12_read 6 = .ok (.invokevirtual 307, 3) := by decide +kernel
theorem dX12_read_9 : decode cX12_read 9 = .ok (.ifCond .ne 11, 3) := by decide +kernel
theorem dX12_read_12 : decode cX12_read 12 = .ok (.bipush (-10), 2) := by decide +kernel
theorem dX12_read_14 : decode cX12_read 14 = .ok (.aload_n 0, 1) := by decide +kernel
theorem dX12_read_15 : decode cX12_read 15 = .ok (.getfield 264, 3) := by decide +kernel
theorem dX12_read_18 : decode cX12_read 18 = .ok (.isub, 1) := by decide +kernel
theorem dX12_read_19 : decode cX12_read 19 = .ok (.ireturn, 1) := by decide +kernel
set_option maxRecDepth 20000 in
theorem iw_k_m_read_X12 : ∀ w ∈ wsX120, w ∈ wsX12_read := by decide +kernel
set_option maxHeartbeats 4000000 in
set_option maxRecDepth 100000 in
theorem k_m_read (l : Launch) (dC : Nat → ClassId) (dI : Nat → Nat → Nat) (mo : Nat) (nw : Nat) (kp : Nat) (ik : Nat) (mr : Nat) (mw : Nat) (mq : Nat) (mz : Nat) (my : Nat) (mb : Nat) (mx : Nat) (mv : Nat) (sz : Nat) : Met l yX12_read wsX12_read ({ frames := 2, cells := 0, slots := 0, locals := 49 }) (va_Pc [.ref mo] (fun U => U.heap.size = sz ∧ va_P (dC, dI) vwCl [(mo, .inr (12, [.ref nw, .ref kp, .ref ik, .ref mr, .long 0, .long 1, .ref mw, .long 0, .int 0, .int 0, .long 0, .long 0, .ref mq, .ref mz, .ref my, .int 0, .ref mb, .int 0, .int 0, .int 0, .int 0, .int 0, .ref mx, .ref mv]))] U.heap ∧ va_K (dC, dI) vwCl [] U ∧ va_D (fun _ => True) [(mo, .inr (12, [.ref nw, .ref kp, .ref ik, .ref mr, .long 0, .long 1, .ref mw, .long 0, .int 0, .int 0, .long 0, .long 0, .ref mq, .ref mz, .ref my, .int 0, .ref mb, .int 0, .int 0, .int 0, .int 0, .int 0, .ref mx, .ref mv]))])) (va_Qi (fun (r : Int32) (_ : Unit) => r = (-10)) (fun _ _ => True) (va_A [(mo, .inr (12, [.ref nw, .ref kp, .ref ik, .ref mr, .long 0, .long 1, .ref mw, .long 0, .int 0, .int 0, .long 0, .long 0, .ref mq, .ref mz, .ref my, .int 0, .ref mb, .int 0, .int 0, .int 0, .int 0, .int 0, .ref mx, .ref mv]))] sz)) 0 0 (va_A [(mo, .inr (12, [.ref nw, .ref kp, .ref ik, .ref mr, .long 0, .long 1, .ref mw, .long 0, .int 0, .int 0, .long 0, .long 0, .ref mq, .ref mz, .ref my, .int 0, .ref mb, .int 0, .int 0, .int 0, .int 0, .int 0, .ref mx, .ref mv]))] sz) := by
  refine Met.ofW (cc := cX12_read) (maxL := 3) (ret := (some .int)) (by decide) rfl ?_
  intro p e s m args below meth c s₁ B hml hv
  obtain ⟨rfl, hsz, hP, hK, hD0⟩ := hv
  have hx := B.exec
  have hb := B.bytes
  have hr := B.returns
  have hts := atoms_spec (ws := wsX12_read) B.pre
  have hown : s.vm.findClass RX12 = some m.cls := findClass_of_methodNamed B.named
  have hlocks := B.notSynchronized
  subst hsz
  have hD := hD0.self (sz := s.heap.size)
  generalize hAe : va_A [(mo, .inr (12, [.ref nw, .ref kp, .ref ik, .ref mr, .long 0, .long 1, .ref mw, .long 0, .int 0, .int 0, .long 0, .long 0, .ref mq, .ref mz, .ref my, .int 0, .ref mb, .int 0, .int 0, .int 0, .int 0, .int 0, .ref mx, .ref mv]))] s.heap.size = A at hD ⊢
  have hA : ∀ q : Nat, s.heap.size ≤ q → A q := fun q h => by rw [← hAe]; exact Or.inr h
  have hS : va_S A s.heap s.heap [] := va_S.rf
  have hP : va_P (dC, dI) vwCl [(mo, .inr (12, [.ref nw, .ref kp, .ref ik, .ref mr, .long 0, .long 1, .ref mw, .long 0, .int 0, .int 0, .long 0, .long 0, .ref mq, .ref mz, .ref my, .int 0, .ref mb, .int 0, .int 0, .int 0, .int 0, .int 0, .ref mx, .ref mv]))] s.heap := hP
  have hl := lv_entry ([.ref mo]) (n := 3) (Nat.le_of_ble_eq_true rfl)
  rw [lg_entry_eq]
  generalize (lg_sl ([.ref mo]) ++ List.replicate (3 - (lg_sl ([.ref mo])).length) Slot.unset).toArray = ls at hl ⊢
  have hl : lv_has ls 3 [(0, .ref mo)] := hl
  refine lv_aload_n hx hb dX12_read_0 rfl (lv_at hl 0 rfl) ?_
  refine lv_iconst (v := 0) hx hb dX12_read_1 (by decide) ?_
  have hPc := hP.sub (ws' := [(mo, .inr (12, [.ref nw, .ref kp, .ref ik, .ref mr, .long 0, .long 1, .ref mw, .long 0, .int 0, .int 0, .long 0, .long 0, .ref mq, .ref mz, .ref my, .int 0, .ref mb, .int 0, .int 0, .int 0, .int 0, .int 0, .ref mx, .ref mv]))]) [0] rfl
  have hDc := hD.sub (ws' := [(mo, .inr (12, [.ref nw, .ref kp, .ref ik, .ref mr, .long 0, .long 1, .ref mw, .long 0, .int 0, .int 0, .long 0, .long 0, .ref mq, .ref mz, .ref my, .int 0, .ref mb, .int 0, .int 0, .int 0, .int 0, .int 0, .ref mx, .ref mv]))]) [0] (by decide) rfl
  have hKc := hK.sub (tys' := []) [] rfl
  have hFc := va_free (wc := [(mo, .inr (12, [.ref nw, .ref kp, .ref ik, .ref mr, .long 0, .long 1, .ref mw, .long 0, .int 0, .int 0, .long 0, .long 0, .ref mq, .ref mz, .ref my, .int 0, .ref mb, .int 0, .int 0, .int 0, .int 0, .int 0, .ref mx, .ref mv]))]) hD hS hA [0] rfl
  refine va_callv (va_runV (As := [.int 0]) (rest := []) ⟨hx, hb, hml, hown, hts⟩ (k_lookAt0 l dC dI mo nw kp ik mr mw mq mz my mb mx mv s.heap.size) (cwV 1 hts gX12_read_X12_lookAt rfl rfl rfl (by decide +kernel) ⟨Nat.le_of_ble_eq_true rfl, Nat.le_of_ble_eq_true rfl⟩) ⟨fun a U g mk q => by obtain ⟨q0, q1, qP, qK, qD⟩ := q; exact ⟨q0, q1, qP, va_K.moved (u := U) (U := U.calling g mk a) (Vm.Alike.refl U.vm) qK, qD⟩, va_recv hK hP (ci := 12) (q0 := 0) rfl rfl, fun U hU hW => ⟨rfl, by rw [hU], by rw [hU]; exact hPc, va_K.moved hW.alike hKc, hDc.weaken (fun _ _ _ _ => trivial)⟩⟩ rfl rfl hl.1 rfl (lv_room (Nat.le_of_ble_eq_true rfl)) dX12_read_2 ⟨Nat.le_of_ble_eq_true rfl, Nat.le_of_ble_eq_true rfl⟩) hS (fun q _ h => hFc q h) hFc (fun u_ t H1 locs ht hvm hw_2 hB hz1 hk1 hS => ?_)
  obtain ⟨hP1, hK1, hD1⟩ := hB
  rw [ht] at hP1
  have hK1 := va_K.moved hvm.symm hK1
  obtain ⟨hP, hD⟩ := va_join (wr := []) (w1 := [(mo, .inr (12, [.ref nw, .ref kp, .ref ik, .ref mr, .long 0, .long 1, .ref mw, .long 0, .int 0, .int 0, .long 0, .long 0, .ref mq, .ref mz, .ref my, .int 0, .ref mb, .int 0, .int 0, .int 0, .int 0, .int 0, .ref mx, .ref mv]))]) hP hD [0] [] rfl rfl (by decide) (by decide) hk1 hFc hP1 hD1
  generalize H1 = H at hP hS ⊢
  have hP : va_P (dC, dI) vwCl [(mo, .inr (12, [.ref nw, .ref kp, .ref ik, .ref mr, .long 0, .long 1, .ref mw, .long 0, .int 0, .int 0, .long 0, .long 0, .ref mq, .ref mz, .ref my, .int 0, .ref mb, .int 0, .int 0, .int 0, .int 0, .int 0, .ref mx, .ref mv]))] H := hP
  have hD : va_D A [(mo, .inr (12, [.ref nw, .ref kp, .ref ik, .ref mr, .long 0, .long 1, .ref mw, .long 0, .int 0, .int 0, .long 0, .long 0, .ref mq, .ref mz, .ref my, .int 0, .ref mb, .int 0, .int 0, .int 0, .int 0, .int 0, .ref mx, .ref mv]))] := hD
  refine lv_aload_n hx hb dX12_read_5 rfl (lv_at hl 0 rfl) ?_
  have hPc_3 := hP.sub (ws' := [(mo, .inr (12, [.ref nw, .ref kp, .ref ik, .ref mr, .long 0, .long 1, .ref mw, .long 0, .int 0, .int 0, .long 0, .long 0, .ref mq, .ref mz, .ref my, .int 0, .ref mb, .int 0, .int 0, .int 0, .int 0, .int 0, .ref mx, .ref mv]))]) [0] rfl
  have hKc_4 := hK.sub (tys' := []) [] rfl
  refine vp_callSi (va_Run.run (va_runV (As := []) (rest := []) ⟨hx, hb, hml, hown, hts⟩ (k_readsFirst0 l dC dI mo nw kp ik mr mw mq mz my mb mx mv) (cwV 0 hts gX12_read_X12_readsFirst rfl rfl rfl (by decide +kernel) ⟨Nat.le_of_ble_eq_true rfl, Nat.le_of_ble_eq_true rfl⟩) ⟨fun a U g mk q => by obtain ⟨q0, qP, qK⟩ := q; exact ⟨q0, qP, va_K.moved (u := U) (U := U.calling g mk a) (Vm.Alike.refl U.vm) qK⟩, va_recv hK hP (ci := 12) (q0 := 0) rfl rfl, fun U hU hW => ⟨rfl, by rw [hU]; exact hPc_3, va_K.moved hW.alike hKc_4⟩⟩ rfl rfl hl.1 rfl (lv_room (Nat.le_of_ble_eq_true rfl)) dX12_read_6 ⟨Nat.le_of_ble_eq_true rfl, Nat.le_of_ble_eq_true rfl⟩)) (fun r_5 hw_6 => ?_)
  obtain rfl : 0 = r_5 := hw_6.symm
  refine lv_if_ne (tgt := 20) hx hb dX12_read_9 (by decide) (fun c_7 => ?_) (fun c_7 => ?_)
  · exact absurd c_7 (by decide)
  · refine lv_bipush (v := (-10)) hx hb dX12_read_12 (by decide) ?_
    refine lv_aload_n hx hb dX12_read_14 rfl (lv_at hl 0 rfl) ?_
    refine va_get (D := (dC, dI)) (ci := 12) (v := .int 0) (C := RX12) (T := TX12) (N := 24) hx hb hts iw_k_m_read_X12 hown hK hP 0 rfl rfl 18 (by decide) (hts (.fieldLink RX12 264 "ThriceCountedModel" "tokenAt" "I") (by decide +kernel)) (fun _ h9 => h9) rfl dX12_read_15 ?_
    refine lv_isub hx hb dX12_read_18 ?_
    refine tz_i (-10) (by decide) ?_
    exact W.iret (v := (-10)) hx hb hr (fun t ht hW => ⟨⟨(-10), (), rfl, rfl, trivial⟩, hS.F ht⟩) hS.2.2 dX12_read_19
theorem dX12_believe_0 : decode cX12_believe 0 = .ok (.aload_n 0, 1) := by decide +kernel
theorem dX12_believe_1 : decode cX12_believe 1 = .ok (.getfield 7, 3) := by decide +kernel
theorem dX12_believe_4 : decode cX12_believe 4 = .ok (.iconst 2, 1) := by decide +kernel
theorem dX12_believe_5 : decode cX12_believe 5 = .ok (.iaload, 1) := by decide +kernel
theorem dX12_believe_6 : decode cX12_believe 6 = .ok (.ifCond .ne 5, 3) := by decide +kernel
theorem dX12_believe_9 : decode cX12_believe 9 = .ok (.iconst (-1), 1) := by decide +kernel
theorem dX12_believe_10 : decode cX12_believe 10 = .ok (.ireturn, 1) := by decide +kernel
set_option maxRecDepth 20000 in
theorem iw_k_m_believe_X12 : ∀ w ∈ wsX120, w ∈ wsX12_believe := by decide +kernel
set_option maxHeartbeats 4000000 in
set_option maxRecDepth 100000 in
theorem k_m_believe (l : Launch) (dC : Nat → ClassId) (dI : Nat → Nat → Nat) (mo : Nat) (nw : Nat) (kp : Nat) (ik : Nat) (mr : Nat) (mw : Nat) (mq : Nat) (mz : Nat) (my : Nat) (mb : Nat) (mx : Nat) (mv : Nat) (cn : ClassId) (sz : Nat) : Met l yX12_believe wsX12_believe ({ frames := 0, cells := 0, slots := 0, locals := 0 }) (va_Pc [.ref mo] (fun U => U.heap.size = sz ∧ va_P (dC, dI) vwCl [(mo, .inr (12, [.ref nw, .ref kp, .ref ik, .ref mr, .long 0, .long 1, .ref mw, .long 0, .int 0, .int 0, .long 0, .long 0, .ref mq, .ref mz, .ref my, .int 0, .ref mb, .int 0, .int 0, .int 0, .int 0, .int 0, .ref mx, .ref mv])), (nw, .inl (cn, 350, .inl (fun _ => 0)))] U.heap ∧ va_K (dC, dI) vwCl [(cn, .int)] U ∧ va_D (fun _ => True) [(mo, .inr (12, [.ref nw, .ref kp, .ref ik, .ref mr, .long 0, .long 1, .ref mw, .long 0, .int 0, .int 0, .long 0, .long 0, .ref mq, .ref mz, .ref my, .int 0, .ref mb, .int 0, .int 0, .int 0, .int 0, .int 0, .ref mx, .ref mv])), (nw, .inl (cn, 350, .inl (fun _ => 0)))])) (va_Qi (fun (r : Int32) (_ : Unit) => r = (-1)) (fun _ _ => True) (va_A [(mo, .inr (12, [.ref nw, .ref kp, .ref ik, .ref mr, .long 0, .long 1, .ref mw, .long 0, .int 0, .int 0, .long 0, .long 0, .ref mq, .ref mz, .ref my, .int 0, .ref mb, .int 0, .int 0, .int 0, .int 0, .int 0, .ref mx, .ref mv])), (nw, .inl (cn, 350, .inl (fun _ => 0)))] sz)) 0 0 (va_A [(mo, .inr (12, [.ref nw, .ref kp, .ref ik, .ref mr, .long 0, .long 1, .ref mw, .long 0, .int 0, .int 0, .long 0, .long 0, .ref mq, .ref mz, .ref my, .int 0, .ref mb, .int 0, .int 0, .int 0, .int 0, .int 0, .ref mx, .ref mv])), (nw, .inl (cn, 350, .inl (fun _ => 0)))] sz) := by
  refine Met.ofW (cc := cX12_believe) (maxL := 5) (ret := (some .int)) (by decide) rfl ?_
  intro p e s m args below meth c s₁ B hml hv
  obtain ⟨rfl, hsz, hP, hK, hD0⟩ := hv
  have hx := B.exec
  have hb := B.bytes
  have hr := B.returns
  have hts := atoms_spec (ws := wsX12_believe) B.pre
  have hown : s.vm.findClass RX12 = some m.cls := findClass_of_methodNamed B.named
  have hlocks := B.notSynchronized
  subst hsz
  have hD := hD0.self (sz := s.heap.size)
  generalize hAe : va_A [(mo, .inr (12, [.ref nw, .ref kp, .ref ik, .ref mr, .long 0, .long 1, .ref mw, .long 0, .int 0, .int 0, .long 0, .long 0, .ref mq, .ref mz, .ref my, .int 0, .ref mb, .int 0, .int 0, .int 0, .int 0, .int 0, .ref mx, .ref mv])), (nw, .inl (cn, 350, .inl (fun _ => 0)))] s.heap.size = A at hD ⊢
  have hA : ∀ q : Nat, s.heap.size ≤ q → A q := fun q h => by rw [← hAe]; exact Or.inr h
  have hS : va_S A s.heap s.heap [] := va_S.rf
  have hP : va_P (dC, dI) vwCl [(mo, .inr (12, [.ref nw, .ref kp, .ref ik, .ref mr, .long 0, .long 1, .ref mw, .long 0, .int 0, .int 0, .long 0, .long 0, .ref mq, .ref mz, .ref my, .int 0, .ref mb, .int 0, .int 0, .int 0, .int 0, .int 0, .ref mx, .ref mv])), (nw, .inl (cn, 350, .inl (fun _ => 0)))] s.heap := hP
  have hl := lv_entry ([.ref mo]) (n := 5) (Nat.le_of_ble_eq_true rfl)
  rw [lg_entry_eq]
  generalize (lg_sl ([.ref mo]) ++ List.replicate (5 - (lg_sl ([.ref mo])).length) Slot.unset).toArray = ls at hl ⊢
  have hl : lv_has ls 5 [(0, .ref mo)] := hl
  refine lv_aload_n hx hb dX12_believe_0 rfl (lv_at hl 0 rfl) ?_
  refine va_get (D := (dC, dI)) (ci := 12) (v := .ref nw) (C := RX12) (T := TX12) (N := 24) hx hb hts iw_k_m_believe_X12 hown hK hP 0 rfl rfl 0 (by decide) (hts (.fieldLink RX12 7 "ThriceCountedModel" "now" "[I") (by decide +kernel)) (fun _ h9 => h9) rfl dX12_believe_1 ?_
  refine lv_iconst (v := 2) hx hb dX12_believe_4 (by decide) ?_
  refine va_iald hx hb hK hP 1 0 rfl rfl (show ¬ ((2 : Int32) < 0 ∨ 350 ≤ (2 : Int32).toNatClampNeg) by decide) dX12_believe_5 ?_
  refine tz_i 0 rfl ?_
  refine lv_if_ne (tgt := 11) hx hb dX12_believe_6 (by decide) (fun c_1 => ?_) (fun c_1 => ?_)
  · exact absurd c_1 (by decide)
  · refine lv_iconst (v := (-1)) hx hb dX12_believe_9 (by decide) ?_
    exact W.iret (v := (-1)) hx hb hr (fun t ht hW => ⟨⟨(-1), (), rfl, rfl, trivial⟩, hS.F ht⟩) hS.2.2 dX12_believe_10
theorem dX12_open_0 : decode cX12_open 0 = .ok (.iconst 0, 1) := by decide +kernel
theorem dX12_open_1 : decode cX12_open 1 = .ok (.istore_n 1, 1) := by decide +kernel
theorem dX12_open_2 : decode cX12_open 2 = .ok (.iconst 0, 1) := by decide +kernel
theorem dX12_open_3 : decode cX12_open 3 = .ok (.istore_n 2, 1) := by decide +kernel
theorem dX12_open_4 : decode cX12_open 4 = .ok (.iload_n 2, 1) := by decide +kernel
theorem dX12_open_5 : decode cX12_open 5 = .ok (.aload_n 0, 1) := by decide +kernel
theorem dX12_open_6 : decode cX12_open 6 = .ok (.getfield 7, 3) := by decide +kernel
theorem dX12_open_9 : decode cX12_open 9 = .ok (.iconst 1, 1) := by decide +kernel
theorem dX12_open_10 : decode cX12_open 10 = .ok (.iaload, 1) := by decide +kernel
theorem dX12_open_11 : decode cX12_open 11 = .ok (.if_icmp .ge 65, 3) := by decide +kernel
theorem dX12_open_76 : decode cX12_open 76 = .ok (.iload_n 1, 1) := by decide +kernel
theorem dX12_open_77 : decode cX12_open 77 = .ok (.ireturn, 1) := by decide +kernel
set_option maxRecDepth 20000 in
theorem iw_k_m_open_X12 : ∀ w ∈ wsX120, w ∈ wsX12_open := by decide +kernel
set_option maxHeartbeats 4000000 in
set_option maxRecDepth 100000 in
theorem k_m_open (l : Launch) (dC : Nat → ClassId) (dI : Nat → Nat → Nat) (mo : Nat) (nw : Nat) (kp : Nat) (ik : Nat) (mr : Nat) (mw : Nat) (mq : Nat) (mz : Nat) (my : Nat) (mb : Nat) (mx : Nat) (mv : Nat) (cn : ClassId) (sz : Nat) : Met l yX12_open wsX12_open ({ frames := 0, cells := 0, slots := 0, locals := 0 }) (va_Pc [.ref mo] (fun U => U.heap.size = sz ∧ va_P (dC, dI) vwCl [(mo, .inr (12, [.ref nw, .ref kp, .ref ik, .ref mr, .long 0, .long 1, .ref mw, .long 0, .int 0, .int 0, .long 0, .long 0, .ref mq, .ref mz, .ref my, .int 0, .ref mb, .int 0, .int 0, .int 0, .int 0, .int 0, .ref mx, .ref mv])), (nw, .inl (cn, 350, .inl (fun _ => 0)))] U.heap ∧ va_K (dC, dI) vwCl [(cn, .int)] U ∧ va_D (fun _ => True) [(mo, .inr (12, [.ref nw, .ref kp, .ref ik, .ref mr, .long 0, .long 1, .ref mw, .long 0, .int 0, .int 0, .long 0, .long 0, .ref mq, .ref mz, .ref my, .int 0, .ref mb, .int 0, .int 0, .int 0, .int 0, .int 0, .ref mx, .ref mv])), (nw, .inl (cn, 350, .inl (fun _ => 0)))])) (va_Qi (fun (r : Int32) (_ : Unit) => r = 0) (fun _ _ => True) (va_A [(mo, .inr (12, [.ref nw, .ref kp, .ref ik, .ref mr, .long 0, .long 1, .ref mw, .long 0, .int 0, .int 0, .long 0, .long 0, .ref mq, .ref mz, .ref my, .int 0, .ref mb, .int 0, .int 0, .int 0, .int 0, .int 0, .ref mx, .ref mv])), (nw, .inl (cn, 350, .inl (fun _ => 0)))] sz)) 0 0 (va_A [(mo, .inr (12, [.ref nw, .ref kp, .ref ik, .ref mr, .long 0, .long 1, .ref mw, .long 0, .int 0, .int 0, .long 0, .long 0, .ref mq, .ref mz, .ref my, .int 0, .ref mb, .int 0, .int 0, .int 0, .int 0, .int 0, .ref mx, .ref mv])), (nw, .inl (cn, 350, .inl (fun _ => 0)))] sz) := by
  refine Met.ofW (cc := cX12_open) (maxL := 4) (ret := (some .int)) (by decide) rfl ?_
  intro p e s m args below meth c s₁ B hml hv
  obtain ⟨rfl, hsz, hP, hK, hD0⟩ := hv
  have hx := B.exec
  have hb := B.bytes
  have hr := B.returns
  have hts := atoms_spec (ws := wsX12_open) B.pre
  have hown : s.vm.findClass RX12 = some m.cls := findClass_of_methodNamed B.named
  have hlocks := B.notSynchronized
  subst hsz
  have hD := hD0.self (sz := s.heap.size)
  generalize hAe : va_A [(mo, .inr (12, [.ref nw, .ref kp, .ref ik, .ref mr, .long 0, .long 1, .ref mw, .long 0, .int 0, .int 0, .long 0, .long 0, .ref mq, .ref mz, .ref my, .int 0, .ref mb, .int 0, .int 0, .int 0, .int 0, .int 0, .ref mx, .ref mv])), (nw, .inl (cn, 350, .inl (fun _ => 0)))] s.heap.size = A at hD ⊢
  have hA : ∀ q : Nat, s.heap.size ≤ q → A q := fun q h => by rw [← hAe]; exact Or.inr h
  have hS : va_S A s.heap s.heap [] := va_S.rf
  have hP : va_P (dC, dI) vwCl [(mo, .inr (12, [.ref nw, .ref kp, .ref ik, .ref mr, .long 0, .long 1, .ref mw, .long 0, .int 0, .int 0, .long 0, .long 0, .ref mq, .ref mz, .ref my, .int 0, .ref mb, .int 0, .int 0, .int 0, .int 0, .int 0, .ref mx, .ref mv])), (nw, .inl (cn, 350, .inl (fun _ => 0)))] s.heap := hP
  have hl := lv_entry ([.ref mo]) (n := 4) (Nat.le_of_ble_eq_true rfl)
  rw [lg_entry_eq]
  generalize (lg_sl ([.ref mo]) ++ List.replicate (4 - (lg_sl ([.ref mo])).length) Slot.unset).toArray = ls at hl ⊢
  have hl : lv_has ls 4 [(0, .ref mo)] := hl
  refine lv_iconst (v := 0) hx hb dX12_open_0 (by decide) ?_
  refine lv_istore_n (lv' := [(1, .int 0), (0, .ref mo)]) hx hb dX12_open_1 rfl hl (by decide) rfl (fun ls hl => ?_)
  refine lv_iconst (v := 0) hx hb dX12_open_2 (by decide) ?_
  refine lv_istore_n (lv' := [(2, .int 0), (1, .int 0), (0, .ref mo)]) hx hb dX12_open_3 rfl hl (by decide) rfl (fun ls hl => ?_)
  refine lv_iload_n hx hb dX12_open_4 rfl (lv_at hl 0 rfl) ?_
  refine lv_aload_n hx hb dX12_open_5 rfl (lv_at hl 2 rfl) ?_
  refine va_get (D := (dC, dI)) (ci := 12) (v := .ref nw) (C := RX12) (T := TX12) (N := 24) hx hb hts iw_k_m_open_X12 hown hK hP 0 rfl rfl 0 (by decide) (hts (.fieldLink RX12 7 "ThriceCountedModel" "now" "[I") (by decide +kernel)) (fun _ h9 => h9) rfl dX12_open_6 ?_
  refine lv_iconst (v := 1) hx hb dX12_open_9 (by decide) ?_
  refine va_iald hx hb hK hP 1 0 rfl rfl (show ¬ ((1 : Int32) < 0 ∨ 350 ≤ (1 : Int32).toNatClampNeg) by decide) dX12_open_10 ?_
  refine tz_i 0 rfl ?_
  refine lv_icmp_ge (tgt := 76) hx hb dX12_open_11 (by decide) (fun c_1 => ?_) (fun c_1 => ?_)
  · refine lv_iload_n hx hb dX12_open_76 rfl (lv_at hl 1 rfl) ?_
    exact W.iret (v := 0) hx hb hr (fun t ht hW => ⟨⟨0, (), rfl, rfl, trivial⟩, hS.F ht⟩) hS.2.2 dX12_open_77
  · exact absurd c_1 (by decide)
theorem dX12_sum_0 : decode cX12_sum 0 = .ok (.iconst 0, 1) := by decide +kernel
theorem dX12_sum_1 : decode cX12_sum 1 = .ok (.istore_n 1, 1) := by decide +kernel
theorem dX12_sum_2 : decode cX12_sum 2 = .ok (.iconst 0, 1) := by decide +kernel
theorem dX12_sum_3 : decode cX12_sum 3 = .ok (.istore_n 2, 1) := by decide +kernel
theorem dX12_sum_4 : decode cX12_sum 4 = .ok (.iload_n 2, 1) := by decide +kernel
theorem dX12_sum_5 : decode cX12_sum 5 = .ok (.aload_n 0, 1) := by decide +kernel
theorem dX12_sum_6 : decode cX12_sum 6 = .ok (.getfield 7, 3) := by decide +kernel
theorem dX12_sum_9 : decode cX12_sum 9 = .ok (.iconst 1, 1) := by decide +kernel
theorem dX12_sum_10 : decode cX12_sum 10 = .ok (.iaload, 1) := by decide +kernel
theorem dX12_sum_11 : decode cX12_sum 11 = .ok (.if_icmp .ge 31, 3) := by decide +kernel
theorem dX12_sum_42 : decode cX12_sum 42 = .ok (.iload_n 1, 1) := by decide +kernel
theorem dX12_sum_43 : decode cX12_sum 43 = .ok (.ireturn, 1) := by decide +kernel
set_option maxRecDepth 20000 in
theorem iw_k_m_sum_X12 : ∀ w ∈ wsX120, w ∈ wsX12_sum := by decide +kernel
set_option maxHeartbeats 4000000 in
set_option maxRecDepth 100000 in
theorem k_m_sum (l : Launch) (dC : Nat → ClassId) (dI : Nat → Nat → Nat) (mo : Nat) (nw : Nat) (kp : Nat) (ik : Nat) (mr : Nat) (mw : Nat) (mq : Nat) (mz : Nat) (my : Nat) (mb : Nat) (mx : Nat) (mv : Nat) (cn : ClassId) (sz : Nat) : Met l yX12_sum wsX12_sum ({ frames := 0, cells := 0, slots := 0, locals := 0 }) (va_Pc [.ref mo] (fun U => U.heap.size = sz ∧ va_P (dC, dI) vwCl [(mo, .inr (12, [.ref nw, .ref kp, .ref ik, .ref mr, .long 0, .long 1, .ref mw, .long 0, .int 0, .int 0, .long 0, .long 0, .ref mq, .ref mz, .ref my, .int 0, .ref mb, .int 0, .int 0, .int 0, .int 0, .int 0, .ref mx, .ref mv])), (nw, .inl (cn, 350, .inl (fun _ => 0)))] U.heap ∧ va_K (dC, dI) vwCl [(cn, .int)] U ∧ va_D (fun _ => True) [(mo, .inr (12, [.ref nw, .ref kp, .ref ik, .ref mr, .long 0, .long 1, .ref mw, .long 0, .int 0, .int 0, .long 0, .long 0, .ref mq, .ref mz, .ref my, .int 0, .ref mb, .int 0, .int 0, .int 0, .int 0, .int 0, .ref mx, .ref mv])), (nw, .inl (cn, 350, .inl (fun _ => 0)))])) (va_Qi (fun (r : Int32) (_ : Unit) => r = 0) (fun _ _ => True) (va_A [(mo, .inr (12, [.ref nw, .ref kp, .ref ik, .ref mr, .long 0, .long 1, .ref mw, .long 0, .int 0, .int 0, .long 0, .long 0, .ref mq, .ref mz, .ref my, .int 0, .ref mb, .int 0, .int 0, .int 0, .int 0, .int 0, .ref mx, .ref mv])), (nw, .inl (cn, 350, .inl (fun _ => 0)))] sz)) 0 0 (va_A [(mo, .inr (12, [.ref nw, .ref kp, .ref ik, .ref mr, .long 0, .long 1, .ref mw, .long 0, .int 0, .int 0, .long 0, .long 0, .ref mq, .ref mz, .ref my, .int 0, .ref mb, .int 0, .int 0, .int 0, .int 0, .int 0, .ref mx, .ref mv])), (nw, .inl (cn, 350, .inl (fun _ => 0)))] sz) := by
  refine Met.ofW (cc := cX12_sum) (maxL := 3) (ret := (some .int)) (by decide) rfl ?_
  intro p e s m args below meth c s₁ B hml hv
  obtain ⟨rfl, hsz, hP, hK, hD0⟩ := hv
  have hx := B.exec
  have hb := B.bytes
  have hr := B.returns
  have hts := atoms_spec (ws := wsX12_sum) B.pre
  have hown : s.vm.findClass RX12 = some m.cls := findClass_of_methodNamed B.named
  have hlocks := B.notSynchronized
  subst hsz
  have hD := hD0.self (sz := s.heap.size)
  generalize hAe : va_A [(mo, .inr (12, [.ref nw, .ref kp, .ref ik, .ref mr, .long 0, .long 1, .ref mw, .long 0, .int 0, .int 0, .long 0, .long 0, .ref mq, .ref mz, .ref my, .int 0, .ref mb, .int 0, .int 0, .int 0, .int 0, .int 0, .ref mx, .ref mv])), (nw, .inl (cn, 350, .inl (fun _ => 0)))] s.heap.size = A at hD ⊢
  have hA : ∀ q : Nat, s.heap.size ≤ q → A q := fun q h => by rw [← hAe]; exact Or.inr h
  have hS : va_S A s.heap s.heap [] := va_S.rf
  have hP : va_P (dC, dI) vwCl [(mo, .inr (12, [.ref nw, .ref kp, .ref ik, .ref mr, .long 0, .long 1, .ref mw, .long 0, .int 0, .int 0, .long 0, .long 0, .ref mq, .ref mz, .ref my, .int 0, .ref mb, .int 0, .int 0, .int 0, .int 0, .int 0, .ref mx, .ref mv])), (nw, .inl (cn, 350, .inl (fun _ => 0)))] s.heap := hP
  have hl := lv_entry ([.ref mo]) (n := 3) (Nat.le_of_ble_eq_true rfl)
  rw [lg_entry_eq]
  generalize (lg_sl ([.ref mo]) ++ List.replicate (3 - (lg_sl ([.ref mo])).length) Slot.unset).toArray = ls at hl ⊢
  have hl : lv_has ls 3 [(0, .ref mo)] := hl
  refine lv_iconst (v := 0) hx hb dX12_sum_0 (by decide) ?_
  refine lv_istore_n (lv' := [(1, .int 0), (0, .ref mo)]) hx hb dX12_sum_1 rfl hl (by decide) rfl (fun ls hl => ?_)
  refine lv_iconst (v := 0) hx hb dX12_sum_2 (by decide) ?_
  refine lv_istore_n (lv' := [(2, .int 0), (1, .int 0), (0, .ref mo)]) hx hb dX12_sum_3 rfl hl (by decide) rfl (fun ls hl => ?_)
  refine lv_iload_n hx hb dX12_sum_4 rfl (lv_at hl 0 rfl) ?_
  refine lv_aload_n hx hb dX12_sum_5 rfl (lv_at hl 2 rfl) ?_
  refine va_get (D := (dC, dI)) (ci := 12) (v := .ref nw) (C := RX12) (T := TX12) (N := 24) hx hb hts iw_k_m_sum_X12 hown hK hP 0 rfl rfl 0 (by decide) (hts (.fieldLink RX12 7 "ThriceCountedModel" "now" "[I") (by decide +kernel)) (fun _ h9 => h9) rfl dX12_sum_6 ?_
  refine lv_iconst (v := 1) hx hb dX12_sum_9 (by decide) ?_
  refine va_iald hx hb hK hP 1 0 rfl rfl (show ¬ ((1 : Int32) < 0 ∨ 350 ≤ (1 : Int32).toNatClampNeg) by decide) dX12_sum_10 ?_
  refine tz_i 0 rfl ?_
  refine lv_icmp_ge (tgt := 42) hx hb dX12_sum_11 (by decide) (fun c_1 => ?_) (fun c_1 => ?_)
  · refine lv_iload_n hx hb dX12_sum_42 rfl (lv_at hl 1 rfl) ?_
    exact W.iret (v := 0) hx hb hr (fun t ht hW => ⟨⟨0, (), rfl, rfl, trivial⟩, hS.F ht⟩) hS.2.2 dX12_sum_43
  · exact absurd c_1 (by decide)
theorem dX12_forget_0 : decode cX12_forget 0 = .ok (.aload_n 0, 1) := by decide +kernel
theorem dX12_forget_1 : decode cX12_forget 1 = .ok (.getfield 7, 3) := by decide +kernel
theorem dX12_forget_4 : decode cX12_forget 4 = .ok (.iconst 3, 1) := by decide +kernel
theorem dX12_forget_5 : decode cX12_forget 5 = .ok (.iaload, 1) := by decide +kernel
theorem dX12_forget_6 : decode cX12_forget 6 = .ok (.istore_n 1, 1) := by decide +kernel
theorem dX12_forget_7 : decode cX12_forget 7 = .ok (.aload_n 0, 1) := by decide +kernel
theorem dX12_forget_8 : decode cX12_forget 8 = .ok (.getfield 7, 3) := by decide +kernel
theorem dX12_forget_11 : decode cX12_forget 11 = .ok (.iconst 3, 1) := by decide +kernel
theorem dX12_forget_12 : decode cX12_forget 12 = .ok (.iconst 0, 1) := by decide +kernel
theorem dX12_forget_13 : decode cX12_forget 13 = .ok (.iastore, 1) := by decide +kernel
theorem dX12_forget_14 : decode cX12_forget 14 = .ok (.iload_n 1, 1) := by decide +kernel
theorem dX12_forget_15 : decode cX12_forget 15 = .ok (.ireturn, 1) := by decide +kernel
set_option maxRecDepth 20000 in
theorem iw_k_m_forget_X12 : ∀ w ∈ wsX120, w ∈ wsX12_forget := by decide +kernel
set_option maxHeartbeats 4000000 in
set_option maxRecDepth 100000 in
theorem k_m_forget (l : Launch) (dC : Nat → ClassId) (dI : Nat → Nat → Nat) (mo : Nat) (nw : Nat) (kp : Nat) (ik : Nat) (mr : Nat) (mw : Nat) (mq : Nat) (mz : Nat) (my : Nat) (mb : Nat) (mx : Nat) (mv : Nat) (cn : ClassId) (sz : Nat) : Met l yX12_forget wsX12_forget ({ frames := 0, cells := 0, slots := 0, locals := 0 }) (va_Pc [.ref mo] (fun U => U.heap.size = sz ∧ va_P (dC, dI) vwCl [(mo, .inr (12, [.ref nw, .ref kp, .ref ik, .ref mr, .long 0, .long 1, .ref mw, .long 0, .int 0, .int 0, .long 0, .long 0, .ref mq, .ref mz, .ref my, .int 0, .ref mb, .int 0, .int 0, .int 0, .int 0, .int 0, .ref mx, .ref mv])), (nw, .inl (cn, 350, .inl (fun _ => 0)))] U.heap ∧ va_K (dC, dI) vwCl [(cn, .int)] U ∧ va_D (fun _ => True) [(mo, .inr (12, [.ref nw, .ref kp, .ref ik, .ref mr, .long 0, .long 1, .ref mw, .long 0, .int 0, .int 0, .long 0, .long 0, .ref mq, .ref mz, .ref my, .int 0, .ref mb, .int 0, .int 0, .int 0, .int 0, .int 0, .ref mx, .ref mv])), (nw, .inl (cn, 350, .inl (fun _ => 0)))])) (va_Qi (fun (r : Int32) (_ : Unit) => r = 0) (fun _ _ => True) (va_A [(mo, .inr (12, [.ref nw, .ref kp, .ref ik, .ref mr, .long 0, .long 1, .ref mw, .long 0, .int 0, .int 0, .long 0, .long 0, .ref mq, .ref mz, .ref my, .int 0, .ref mb, .int 0, .int 0, .int 0, .int 0, .int 0, .ref mx, .ref mv])), (nw, .inl (cn, 350, .inl (fun _ => 0)))] sz)) 0 0 (va_A [(mo, .inr (12, [.ref nw, .ref kp, .ref ik, .ref mr, .long 0, .long 1, .ref mw, .long 0, .int 0, .int 0, .long 0, .long 0, .ref mq, .ref mz, .ref my, .int 0, .ref mb, .int 0, .int 0, .int 0, .int 0, .int 0, .ref mx, .ref mv])), (nw, .inl (cn, 350, .inl (fun _ => 0)))] sz) := by
  refine Met.ofW (cc := cX12_forget) (maxL := 2) (ret := (some .int)) (by decide) rfl ?_
  intro p e s m args below meth c s₁ B hml hv
  obtain ⟨rfl, hsz, hP, hK, hD0⟩ := hv
  have hx := B.exec
  have hb := B.bytes
  have hr := B.returns
  have hts := atoms_spec (ws := wsX12_forget) B.pre
  have hown : s.vm.findClass RX12 = some m.cls := findClass_of_methodNamed B.named
  have hlocks := B.notSynchronized
  subst hsz
  have hD := hD0.self (sz := s.heap.size)
  generalize hAe : va_A [(mo, .inr (12, [.ref nw, .ref kp, .ref ik, .ref mr, .long 0, .long 1, .ref mw, .long 0, .int 0, .int 0, .long 0, .long 0, .ref mq, .ref mz, .ref my, .int 0, .ref mb, .int 0, .int 0, .int 0, .int 0, .int 0, .ref mx, .ref mv])), (nw, .inl (cn, 350, .inl (fun _ => 0)))] s.heap.size = A at hD ⊢
  have hA : ∀ q : Nat, s.heap.size ≤ q → A q := fun q h => by rw [← hAe]; exact Or.inr h
  have hS : va_S A s.heap s.heap [] := va_S.rf
  have hP : va_P (dC, dI) vwCl [(mo, .inr (12, [.ref nw, .ref kp, .ref ik, .ref mr, .long 0, .long 1, .ref mw, .long 0, .int 0, .int 0, .long 0, .long 0, .ref mq, .ref mz, .ref my, .int 0, .ref mb, .int 0, .int 0, .int 0, .int 0, .int 0, .ref mx, .ref mv])), (nw, .inl (cn, 350, .inl (fun _ => 0)))] s.heap := hP
  have hl := lv_entry ([.ref mo]) (n := 2) (Nat.le_of_ble_eq_true rfl)
  rw [lg_entry_eq]
  generalize (lg_sl ([.ref mo]) ++ List.replicate (2 - (lg_sl ([.ref mo])).length) Slot.unset).toArray = ls at hl ⊢
  have hl : lv_has ls 2 [(0, .ref mo)] := hl
  refine lv_aload_n hx hb dX12_forget_0 rfl (lv_at hl 0 rfl) ?_
  refine va_get (D := (dC, dI)) (ci := 12) (v := .ref nw) (C := RX12) (T := TX12) (N := 24) hx hb hts iw_k_m_forget_X12 hown hK hP 0 rfl rfl 0 (by decide) (hts (.fieldLink RX12 7 "ThriceCountedModel" "now" "[I") (by decide +kernel)) (fun _ h9 => h9) rfl dX12_forget_1 ?_
  refine lv_iconst (v := 3) hx hb dX12_forget_4 (by decide) ?_
  refine va_iald hx hb hK hP 1 0 rfl rfl (show ¬ ((3 : Int32) < 0 ∨ 350 ≤ (3 : Int32).toNatClampNeg) by decide) dX12_forget_5 ?_
  refine tz_i 0 rfl ?_
  refine lv_istore_n (lv' := [(1, .int 0), (0, .ref mo)]) hx hb dX12_forget_6 rfl hl (by decide) rfl (fun ls hl => ?_)
  refine lv_aload_n hx hb dX12_forget_7 rfl (lv_at hl 1 rfl) ?_
  refine va_get (D := (dC, dI)) (ci := 12) (v := .ref nw) (C := RX12) (T := TX12) (N := 24) hx hb hts iw_k_m_forget_X12 hown hK hP 0 rfl rfl 0 (by decide) (hts (.fieldLink RX12 7 "ThriceCountedModel" "now" "[I") (by decide +kernel)) (fun _ h9 => h9) rfl dX12_forget_8 ?_
  refine lv_iconst (v := 3) hx hb dX12_forget_11 (by decide) ?_
  refine lv_iconst (v := 0) hx hb dX12_forget_12 (by decide) ?_
  refine va_iast hx hb hK hP hD hS 1 0 rfl rfl (show ¬ ((3 : Int32) < 0 ∨ 350 ≤ (3 : Int32).toNatClampNeg) by decide) dX12_forget_13 (fun H locs hP hD hS => ?_)
  have hP : va_P (dC, dI) vwCl [(mo, .inr (12, [.ref nw, .ref kp, .ref ik, .ref mr, .long 0, .long 1, .ref mw, .long 0, .int 0, .int 0, .long 0, .long 0, .ref mq, .ref mz, .ref my, .int 0, .ref mb, .int 0, .int 0, .int 0, .int 0, .int 0, .ref mx, .ref mv])), (nw, .inl (cn, 350, .inl (upd (fun _ => 0) (Int32.toNatClampNeg 3) 0)))] H := hP
  have hD : va_D A [(mo, .inr (12, [.ref nw, .ref kp, .ref ik, .ref mr, .long 0, .long 1, .ref mw, .long 0, .int 0, .int 0, .long 0, .long 0, .ref mq, .ref mz, .ref my, .int 0, .ref mb, .int 0, .int 0, .int 0, .int 0, .int 0, .ref mx, .ref mv])), (nw, .inl (cn, 350, .inl (upd (fun _ => 0) (Int32.toNatClampNeg 3) 0)))] := hD
  refine lv_iload_n hx hb dX12_forget_14 rfl (lv_at hl 0 rfl) ?_
  exact W.iret (v := 0) hx hb hr (fun t ht hW => ⟨⟨0, (), rfl, rfl, trivial⟩, hS.F ht⟩) hS.2.2 dX12_forget_15
