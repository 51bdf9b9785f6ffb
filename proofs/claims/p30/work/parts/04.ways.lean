theorem dX4_slip_0 : decode cX4_slip 0 = .ok (.iload_n 1, 1) := by decide +kernel
theorem dX4_slip_1 : decode cX4_slip 1 = .ok (.ifCond .eq 8, 3) := by decide +kernel
theorem dX4_slip_9 : decode cX4_slip 9 = .ok (.iconst (-1), 1) := by decide +kernel
theorem dX4_slip_10 : decode cX4_slip 10 = .ok (.ireturn, 1) := by decide +kernel
theorem dX4_slip_4 : decode cX4_slip 4 = .ok (.iload_n 1, 1) := by decide +kernel
theorem dX4_slip_5 : decode cX4_slip 5 = .ok (.iconst 1, 1) := by decide +kernel
theorem dX4_slip_6 : decode cX4_slip 6 = .ok (.if_icmp .ne 5, 3) := by decide +kernel
theorem dX4_slip_11 : decode cX4_slip 11 = .ok (.iload_n 1, 1) := by decide +kernel
theorem dX4_slip_12 : decode cX4_slip 12 = .ok (.iconst 2, 1) := by decide +kernel
theorem dX4_slip_13 : decode cX4_slip 13 = .ok (.if_icmp .ne 7, 3) := by decide +kernel
theorem dX4_slip_20 : decode cX4_slip 20 = .ok (.iconst 0, 1) := by decide +kernel
theorem dX4_slip_21 : decode cX4_slip 21 = .ok (.ireturn, 1) := by decide +kernel
theorem dX4_slip_16 : decode cX4_slip 16 = .ok (.iconst 1, 1) := by decide +kernel
theorem dX4_slip_17 : decode cX4_slip 17 = .ok (.goto 4, 3) := by decide +kernel
set_option maxHeartbeats 4000000 in
set_option maxRecDepth 100000 in
theorem k_slip_X4 (l : Launch) (dC : Nat → ClassId) (dI : Nat → Nat → Nat) (q0 : Nat) (nk : Int32) : Met l yX4_slip wsX4_slip ({ frames := 0, cells := 0, slots := 0, locals := 0 }) (va_Pc [.ref q0, .int nk] (fun _ => True)) (vp_Si (fun r => r = (zO nk))) 0 0 (fun _ => False) := by
  refine Met.ofW (cc := cX4_slip) (maxL := 2) (ret := (some .int)) (by decide) rfl ?_
  intro p e s m args below meth c s₁ B hml hv
  obtain ⟨rfl, -⟩ := hv
  have hx := B.exec
  have hb := B.bytes
  have hr := B.returns
  have hts := atoms_spec (ws := wsX4_slip) B.pre
  have hown : s.vm.findClass RX4 = some m.cls := findClass_of_methodNamed B.named
  have hlocks := B.notSynchronized
  have hl := lv_entry ([.ref q0, .int nk]) (n := 2) (Nat.le_of_ble_eq_true rfl)
  rw [lg_entry_eq]
  generalize (lg_sl ([.ref q0, .int nk]) ++ List.replicate (2 - (lg_sl ([.ref q0, .int nk])).length) Slot.unset).toArray = ls at hl ⊢
  have hl : lv_has ls 2 [(0, .ref q0), (1, .int nk)] := hl
  refine lv_iload_n hx hb dX4_slip_0 rfl (lv_at hl 1 rfl) ?_
  refine lv_if_eq (tgt := 9) hx hb dX4_slip_1 (by decide) (fun c_1 => ?_) (fun c_1 => ?_)
  · refine lv_iconst (v := (-1)) hx hb dX4_slip_9 (by decide) ?_
    exact W.iret (v := (-1)) hx hb hr (fun t ht hW => ⟨(-1), rfl, (show (-1) = zO nk from by unfold zO; exact (if_pos c_1).symm), ht⟩) (fun _ h => absurd h List.not_mem_nil) dX4_slip_10
  · refine lv_iload_n hx hb dX4_slip_4 rfl (lv_at hl 1 rfl) ?_
    refine lv_iconst (v := 1) hx hb dX4_slip_5 (by decide) ?_
    refine lv_icmp_ne (tgt := 11) hx hb dX4_slip_6 (by decide) (fun c_2 => ?_) (fun c_2 => ?_)
    · refine lv_iload_n hx hb dX4_slip_11 rfl (lv_at hl 1 rfl) ?_
      refine lv_iconst (v := 2) hx hb dX4_slip_12 (by decide) ?_
      refine lv_icmp_ne (tgt := 20) hx hb dX4_slip_13 (by decide) (fun c_3 => ?_) (fun c_3 => ?_)
      · refine lv_iconst (v := 0) hx hb dX4_slip_20 (by decide) ?_
        exact W.iret (v := 0) hx hb hr (fun t ht hW => ⟨0, rfl, (show 0 = zO nk from by unfold zO; exact ((if_neg c_1).trans ((if_neg c_2).trans (if_neg c_3))).symm), ht⟩) (fun _ h => absurd h List.not_mem_nil) dX4_slip_21
      · refine lv_iconst (v := 1) hx hb dX4_slip_16 (by decide) ?_
        refine lv_goto (tgt := 21) hx hb dX4_slip_17 (by decide) ?_
        exact W.iret (v := 1) hx hb hr (fun t ht hW => ⟨1, rfl, (show 1 = zO nk from by unfold zO; exact ((if_neg c_1).trans ((if_neg c_2).trans (if_pos c_3))).symm), ht⟩) (fun _ h => absurd h List.not_mem_nil) dX4_slip_21
    · refine lv_iconst (v := (-1)) hx hb dX4_slip_9 (by decide) ?_
      exact W.iret (v := (-1)) hx hb hr (fun t ht hW => ⟨(-1), rfl, (show (-1) = zO nk from by unfold zO; exact ((if_neg c_1).trans (if_pos c_2)).symm), ht⟩) (fun _ h => absurd h List.not_mem_nil) dX4_slip_10
theorem dX10_slip_0 : decode cX10_slip 0 = .ok (.iload_n 1, 1) := by decide +kernel
theorem dX10_slip_1 : decode cX10_slip 1 = .ok (.iconst 3, 1) := by decide +kernel
theorem dX10_slip_2 : decode cX10_slip 2 = .ok (.if_icmp .ge 5, 3) := by decide +kernel
theorem dX10_slip_7 : decode cX10_slip 7 = .ok (.iload_n 1, 1) := by decide +kernel
theorem dX10_slip_8 : decode cX10_slip 8 = .ok (.bipush 6, 2) := by decide +kernel
theorem dX10_slip_10 : decode cX10_slip 10 = .ok (.if_icmp .ge 6, 3) := by decide +kernel
theorem dX10_slip_16 : decode cX10_slip 16 = .ok (.iload_n 1, 1) := by decide +kernel
theorem dX10_slip_17 : decode cX10_slip 17 = .ok (.bipush 9, 2) := by decide +kernel
theorem dX10_slip_19 : decode cX10_slip 19 = .ok (.if_icmp .ge 5, 3) := by decide +kernel
theorem dX10_slip_24 : decode cX10_slip 24 = .ok (.iload_n 1, 1) := by decide +kernel
theorem dX10_slip_25 : decode cX10_slip 25 = .ok (.bipush 12, 2) := by decide +kernel
theorem dX10_slip_27 : decode cX10_slip 27 = .ok (.if_icmp .ge 7, 3) := by decide +kernel
theorem dX10_slip_34 : decode cX10_slip 34 = .ok (.iconst 0, 1) := by decide +kernel
theorem dX10_slip_35 : decode cX10_slip 35 = .ok (.ireturn, 1) := by decide +kernel
theorem dX10_slip_30 : decode cX10_slip 30 = .ok (.iconst 2, 1) := by decide +kernel
theorem dX10_slip_31 : decode cX10_slip 31 = .ok (.goto 4, 3) := by decide +kernel
theorem dX10_slip_22 : decode cX10_slip 22 = .ok (.iconst 1, 1) := by decide +kernel
theorem dX10_slip_23 : decode cX10_slip 23 = .ok (.ireturn, 1) := by decide +kernel
theorem dX10_slip_13 : decode cX10_slip 13 = .ok (.bipush (-2), 2) := by decide +kernel
theorem dX10_slip_15 : decode cX10_slip 15 = .ok (.ireturn, 1) := by decide +kernel
theorem dX10_slip_5 : decode cX10_slip 5 = .ok (.iconst (-1), 1) := by decide +kernel
theorem dX10_slip_6 : decode cX10_slip 6 = .ok (.ireturn, 1) := by decide +kernel
set_option maxHeartbeats 4000000 in
set_option maxRecDepth 100000 in
theorem k_slip_X10 (l : Launch) (dC : Nat → ClassId) (dI : Nat → Nat → Nat) (q0 : Nat) (nk : Int32) : Met l yX10_slip wsX10_slip ({ frames := 0, cells := 0, slots := 0, locals := 0 }) (va_Pc [.ref q0, .int nk] (fun _ => True)) (vp_Si (fun r => r = (zW nk))) 0 0 (fun _ => False) := by
  refine Met.ofW (cc := cX10_slip) (maxL := 2) (ret := (some .int)) (by decide) rfl ?_
  intro p e s m args below meth c s₁ B hml hv
  obtain ⟨rfl, -⟩ := hv
  have hx := B.exec
  have hb := B.bytes
  have hr := B.returns
  have hts := atoms_spec (ws := wsX10_slip) B.pre
  have hown : s.vm.findClass RX10 = some m.cls := findClass_of_methodNamed B.named
  have hlocks := B.notSynchronized
  have hl := lv_entry ([.ref q0, .int nk]) (n := 2) (Nat.le_of_ble_eq_true rfl)
  rw [lg_entry_eq]
  generalize (lg_sl ([.ref q0, .int nk]) ++ List.replicate (2 - (lg_sl ([.ref q0, .int nk])).length) Slot.unset).toArray = ls at hl ⊢
  have hl : lv_has ls 2 [(0, .ref q0), (1, .int nk)] := hl
  refine lv_iload_n hx hb dX10_slip_0 rfl (lv_at hl 1 rfl) ?_
  refine lv_iconst (v := 3) hx hb dX10_slip_1 (by decide) ?_
  refine lv_icmp_ge (tgt := 7) hx hb dX10_slip_2 (by decide) (fun c_1 => ?_) (fun c_1 => ?_)
  · refine lv_iload_n hx hb dX10_slip_7 rfl (lv_at hl 1 rfl) ?_
    refine lv_bipush (v := 6) hx hb dX10_slip_8 (by decide) ?_
    refine lv_icmp_ge (tgt := 16) hx hb dX10_slip_10 (by decide) (fun c_2 => ?_) (fun c_2 => ?_)
    · refine lv_iload_n hx hb dX10_slip_16 rfl (lv_at hl 1 rfl) ?_
      refine lv_bipush (v := 9) hx hb dX10_slip_17 (by decide) ?_
      refine lv_icmp_ge (tgt := 24) hx hb dX10_slip_19 (by decide) (fun c_3 => ?_) (fun c_3 => ?_)
      · refine lv_iload_n hx hb dX10_slip_24 rfl (lv_at hl 1 rfl) ?_
        refine lv_bipush (v := 12) hx hb dX10_slip_25 (by decide) ?_
        refine lv_icmp_ge (tgt := 34) hx hb dX10_slip_27 (by decide) (fun c_4 => ?_) (fun c_4 => ?_)
        · refine lv_iconst (v := 0) hx hb dX10_slip_34 (by decide) ?_
          exact W.iret (v := 0) hx hb hr (fun t ht hW => ⟨0, rfl, (show 0 = zW nk from by unfold zW; exact ((if_pos c_1).trans ((if_pos c_2).trans ((if_pos c_3).trans (if_pos c_4)))).symm), ht⟩) (fun _ h => absurd h List.not_mem_nil) dX10_slip_35
        · refine lv_iconst (v := 2) hx hb dX10_slip_30 (by decide) ?_
          refine lv_goto (tgt := 35) hx hb dX10_slip_31 (by decide) ?_
          exact W.iret (v := 2) hx hb hr (fun t ht hW => ⟨2, rfl, (show 2 = zW nk from by unfold zW; exact ((if_pos c_1).trans ((if_pos c_2).trans ((if_pos c_3).trans (if_neg c_4)))).symm), ht⟩) (fun _ h => absurd h List.not_mem_nil) dX10_slip_35
      · refine lv_iconst (v := 1) hx hb dX10_slip_22 (by decide) ?_
        exact W.iret (v := 1) hx hb hr (fun t ht hW => ⟨1, rfl, (show 1 = zW nk from by unfold zW; exact ((if_pos c_1).trans ((if_pos c_2).trans (if_neg c_3))).symm), ht⟩) (fun _ h => absurd h List.not_mem_nil) dX10_slip_23
    · refine lv_bipush (v := (-2)) hx hb dX10_slip_13 (by decide) ?_
      exact W.iret (v := (-2)) hx hb hr (fun t ht hW => ⟨(-2), rfl, (show (-2) = zW nk from by unfold zW; exact ((if_pos c_1).trans (if_neg c_2)).symm), ht⟩) (fun _ h => absurd h List.not_mem_nil) dX10_slip_15
  · refine lv_iconst (v := (-1)) hx hb dX10_slip_5 (by decide) ?_
    exact W.iret (v := (-1)) hx hb hr (fun t ht hW => ⟨(-1), rfl, (show (-1) = zW nk from by unfold zW; exact (if_neg c_1).symm), ht⟩) (fun _ h => absurd h List.not_mem_nil) dX10_slip_6
set_option maxRecDepth 20000 in
theorem ggX1_slip_X4_slip : GoodIn wsX1_slip wsX4_slip := goodIn_r _ [6] (by decide +kernel) (by decide +kernel)
set_option maxRecDepth 20000 in
theorem gX1_slip_X4_slip_s7 : GoodIn wsX1_slip (va_wsSU RX1 7 yX4_slip wsX4_slip) := goodIn_app (goodIn_of _ (by decide +kernel)) ggX1_slip_X4_slip
theorem dX1_slip_0 : decode cX1_slip 0 = .ok (.iload_n 1, 1) := by decide +kernel
theorem dX1_slip_1 : decode cX1_slip 1 = .ok (.iconst 3, 1) := by decide +kernel
theorem dX1_slip_2 : decode cX1_slip 2 = .ok (.if_icmp .ne 8, 3) := by decide +kernel
theorem dX1_slip_10 : decode cX1_slip 10 = .ok (.aload_n 0, 1) := by decide +kernel
theorem dX1_slip_11 : decode cX1_slip 11 = .ok (.iload_n 1, 1) := by decide +kernel
theorem dX1_slip_12 : decode cX1_slip 12 = .ok (.invokespecial 7, 3) := by decide +kernel
theorem dX1_slip_15 : decode cX1_slip 15 = .ok (.ireturn, 1) := by decide +kernel
theorem dX1_slip_5 : decode cX1_slip 5 = .ok (.bipush (-5), 2) := by decide +kernel
theorem dX1_slip_7 : decode cX1_slip 7 = .ok (.goto 8, 3) := by decide +kernel
set_option maxHeartbeats 4000000 in
set_option maxRecDepth 100000 in
theorem k_slip_X1 (l : Launch) (dC : Nat → ClassId) (dI : Nat → Nat → Nat) (q0 : Nat) (nk : Int32) : Met l yX1_slip wsX1_slip ({ frames := 1, cells := 0, slots := 0, locals := 21 }) (va_Pc [.ref q0, .int nk] (fun U => va_P (dC, dI) vwCl [(q0, .inr (1, []))] U.heap ∧ va_K (dC, dI) vwCl [] U)) (vp_Si (fun r => r = (zF nk))) 0 0 (fun _ => False) := by
  refine Met.ofW (cc := cX1_slip) (maxL := 2) (ret := (some .int)) (by decide) rfl ?_
  intro p e s m args below meth c s₁ B hml hv
  obtain ⟨rfl, hP, hK⟩ := hv
  have hx := B.exec
  have hb := B.bytes
  have hr := B.returns
  have hts := atoms_spec (ws := wsX1_slip) B.pre
  have hown : s.vm.findClass RX1 = some m.cls := findClass_of_methodNamed B.named
  have hlocks := B.notSynchronized
  have hl := lv_entry ([.ref q0, .int nk]) (n := 2) (Nat.le_of_ble_eq_true rfl)
  rw [lg_entry_eq]
  generalize (lg_sl ([.ref q0, .int nk]) ++ List.replicate (2 - (lg_sl ([.ref q0, .int nk])).length) Slot.unset).toArray = ls at hl ⊢
  have hl : lv_has ls 2 [(0, .ref q0), (1, .int nk)] := hl
  refine lv_iload_n hx hb dX1_slip_0 rfl (lv_at hl 1 rfl) ?_
  refine lv_iconst (v := 3) hx hb dX1_slip_1 (by decide) ?_
  refine lv_icmp_ne (tgt := 10) hx hb dX1_slip_2 (by decide) (fun c_1 => ?_) (fun c_1 => ?_)
  · refine lv_aload_n hx hb dX1_slip_10 rfl (lv_at hl 0 rfl) ?_
    refine lv_iload_n hx hb dX1_slip_11 rfl (lv_at hl 1 rfl) ?_
    refine vp_callSi (va_Run.run (va_runSU (C := RX1) (As := [.int nk]) (rest := []) (hK.1 1 _ rfl).2 ⟨hx, hb, hml, hown, hts⟩ (k_slip_X4 l dC dI q0 nk) (va_cwSU 1 hts gX1_slip_X4_slip_s7 rfl rfl rfl (by decide +kernel) ⟨Nat.le_of_ble_eq_true rfl, Nat.le_of_ble_eq_true rfl⟩) ⟨fun a U g mk q => ⟨q.1, trivial⟩, va_recv hK hP (ci := 1) (q0 := 0) rfl rfl, fun U hU hW => ⟨rfl, trivial⟩⟩ rfl rfl hl.1 rfl (lv_room (Nat.le_of_ble_eq_true rfl)) dX1_slip_12 ⟨Nat.le_of_ble_eq_true rfl, Nat.le_of_ble_eq_true rfl⟩)) (fun r_2 hw_3 => ?_)
    obtain rfl : (zO nk) = r_2 := hw_3.symm
    exact W.iret (v := (zO nk)) hx hb hr (fun t ht hW => ⟨(zO nk), rfl, (show (zO nk) = zF nk from by unfold zF; exact (if_neg c_1).symm), ht⟩) (fun _ h => absurd h List.not_mem_nil) dX1_slip_15
  · refine lv_bipush (v := (-5)) hx hb dX1_slip_5 (by decide) ?_
    refine lv_goto (tgt := 15) hx hb dX1_slip_7 (by decide) ?_
    exact W.iret (v := (-5)) hx hb hr (fun t ht hW => ⟨(-5), rfl, (show (-5) = zF nk from by unfold zF; exact (if_pos c_1).symm), ht⟩) (fun _ h => absurd h List.not_mem_nil) dX1_slip_15
set_option maxRecDepth 20000 in
theorem ggX3_slip_X10_slip : GoodIn wsX3_slip wsX10_slip := goodIn_r _ [6] (by decide +kernel) (by decide +kernel)
set_option maxRecDepth 20000 in
theorem gX3_slip_X10_slip_s7 : GoodIn wsX3_slip (va_wsSU RX3 7 yX10_slip wsX10_slip) := goodIn_app (goodIn_of _ (by decide +kernel)) ggX3_slip_X10_slip
theorem dX3_slip_0 : decode cX3_slip 0 = .ok (.iload_n 1, 1) := by decide +kernel
theorem dX3_slip_1 : decode cX3_slip 1 = .ok (.bipush 12, 2) := by decide +kernel
theorem dX3_slip_3 : decode cX3_slip 3 = .ok (.if_icmp .eq 9, 3) := by decide +kernel
theorem dX3_slip_12 : decode cX3_slip 12 = .ok (.bipush (-3), 2) := by decide +kernel
theorem dX3_slip_14 : decode cX3_slip 14 = .ok (.ireturn, 1) := by decide +kernel
theorem dX3_slip_6 : decode cX3_slip 6 = .ok (.iload_n 1, 1) := by decide +kernel
theorem dX3_slip_7 : decode cX3_slip 7 = .ok (.bipush 13, 2) := by decide +kernel
theorem dX3_slip_9 : decode cX3_slip 9 = .ok (.if_icmp .ne 6, 3) := by decide +kernel
theorem dX3_slip_15 : decode cX3_slip 15 = .ok (.iload_n 1, 1) := by decide +kernel
theorem dX3_slip_16 : decode cX3_slip 16 = .ok (.bipush 14, 2) := by decide +kernel
theorem dX3_slip_18 : decode cX3_slip 18 = .ok (.if_icmp .eq 9, 3) := by decide +kernel
theorem dX3_slip_27 : decode cX3_slip 27 = .ok (.iconst 3, 1) := by decide +kernel
theorem dX3_slip_28 : decode cX3_slip 28 = .ok (.goto 8, 3) := by decide +kernel
theorem dX3_slip_36 : decode cX3_slip 36 = .ok (.ireturn, 1) := by decide +kernel
theorem dX3_slip_21 : decode cX3_slip 21 = .ok (.iload_n 1, 1) := by decide +kernel
theorem dX3_slip_22 : decode cX3_slip 22 = .ok (.bipush 15, 2) := by decide +kernel
theorem dX3_slip_24 : decode cX3_slip 24 = .ok (.if_icmp .ne 7, 3) := by decide +kernel
theorem dX3_slip_31 : decode cX3_slip 31 = .ok (.aload_n 0, 1) := by decide +kernel
theorem dX3_slip_32 : decode cX3_slip 32 = .ok (.iload_n 1, 1) := by decide +kernel
theorem dX3_slip_33 : decode cX3_slip 33 = .ok (.invokespecial 7, 3) := by decide +kernel
set_option maxHeartbeats 4000000 in
set_option maxRecDepth 100000 in
theorem k_slip_X3 (l : Launch) (dC : Nat → ClassId) (dI : Nat → Nat → Nat) (q0 : Nat) (nk : Int32) : Met l yX3_slip wsX3_slip ({ frames := 1, cells := 0, slots := 0, locals := 21 }) (va_Pc [.ref q0, .int nk] (fun U => va_P (dC, dI) vwCl [(q0, .inr (3, []))] U.heap ∧ va_K (dC, dI) vwCl [] U)) (vp_Si (fun r => r = (zH nk))) 0 0 (fun _ => False) := by
  refine Met.ofW (cc := cX3_slip) (maxL := 2) (ret := (some .int)) (by decide) rfl ?_
  intro p e s m args below meth c s₁ B hml hv
  obtain ⟨rfl, hP, hK⟩ := hv
  have hx := B.exec
  have hb := B.bytes
  have hr := B.returns
  have hts := atoms_spec (ws := wsX3_slip) B.pre
  have hown : s.vm.findClass RX3 = some m.cls := findClass_of_methodNamed B.named
  have hlocks := B.notSynchronized
  have hl := lv_entry ([.ref q0, .int nk]) (n := 2) (Nat.le_of_ble_eq_true rfl)
  rw [lg_entry_eq]
  generalize (lg_sl ([.ref q0, .int nk]) ++ List.replicate (2 - (lg_sl ([.ref q0, .int nk])).length) Slot.unset).toArray = ls at hl ⊢
  have hl : lv_has ls 2 [(0, .ref q0), (1, .int nk)] := hl
  refine lv_iload_n hx hb dX3_slip_0 rfl (lv_at hl 1 rfl) ?_
  refine lv_bipush (v := 12) hx hb dX3_slip_1 (by decide) ?_
  refine lv_icmp_eq (tgt := 12) hx hb dX3_slip_3 (by decide) (fun c_1 => ?_) (fun c_1 => ?_)
  · refine lv_bipush (v := (-3)) hx hb dX3_slip_12 (by decide) ?_
    exact W.iret (v := (-3)) hx hb hr (fun t ht hW => ⟨(-3), rfl, (show (-3) = zH nk from by unfold zH; exact (if_pos c_1).symm), ht⟩) (fun _ h => absurd h List.not_mem_nil) dX3_slip_14
  · refine lv_iload_n hx hb dX3_slip_6 rfl (lv_at hl 1 rfl) ?_
    refine lv_bipush (v := 13) hx hb dX3_slip_7 (by decide) ?_
    refine lv_icmp_ne (tgt := 15) hx hb dX3_slip_9 (by decide) (fun c_2 => ?_) (fun c_2 => ?_)
    · refine lv_iload_n hx hb dX3_slip_15 rfl (lv_at hl 1 rfl) ?_
      refine lv_bipush (v := 14) hx hb dX3_slip_16 (by decide) ?_
      refine lv_icmp_eq (tgt := 27) hx hb dX3_slip_18 (by decide) (fun c_3 => ?_) (fun c_3 => ?_)
      · refine lv_iconst (v := 3) hx hb dX3_slip_27 (by decide) ?_
        refine lv_goto (tgt := 36) hx hb dX3_slip_28 (by decide) ?_
        exact W.iret (v := 3) hx hb hr (fun t ht hW => ⟨3, rfl, (show 3 = zH nk from by unfold zH; exact ((if_neg c_1).trans ((if_neg c_2).trans (if_pos c_3))).symm), ht⟩) (fun _ h => absurd h List.not_mem_nil) dX3_slip_36
      · refine lv_iload_n hx hb dX3_slip_21 rfl (lv_at hl 1 rfl) ?_
        refine lv_bipush (v := 15) hx hb dX3_slip_22 (by decide) ?_
        refine lv_icmp_ne (tgt := 31) hx hb dX3_slip_24 (by decide) (fun c_4 => ?_) (fun c_4 => ?_)
        · refine lv_aload_n hx hb dX3_slip_31 rfl (lv_at hl 0 rfl) ?_
          refine lv_iload_n hx hb dX3_slip_32 rfl (lv_at hl 1 rfl) ?_
          refine vp_callSi (va_Run.run (va_runSU (C := RX3) (As := [.int nk]) (rest := []) (hK.1 3 _ rfl).2 ⟨hx, hb, hml, hown, hts⟩ (k_slip_X10 l dC dI q0 nk) (va_cwSU 1 hts gX3_slip_X10_slip_s7 rfl rfl rfl (by decide +kernel) ⟨Nat.le_of_ble_eq_true rfl, Nat.le_of_ble_eq_true rfl⟩) ⟨fun a U g mk q => ⟨q.1, trivial⟩, va_recv hK hP (ci := 3) (q0 := 0) rfl rfl, fun U hU hW => ⟨rfl, trivial⟩⟩ rfl rfl hl.1 rfl (lv_room (Nat.le_of_ble_eq_true rfl)) dX3_slip_33 ⟨Nat.le_of_ble_eq_true rfl, Nat.le_of_ble_eq_true rfl⟩)) (fun r_5 hw_6 => ?_)
          obtain rfl : (zW nk) = r_5 := hw_6.symm
          exact W.iret (v := (zW nk)) hx hb hr (fun t ht hW => ⟨(zW nk), rfl, (show (zW nk) = zH nk from by unfold zH; exact ((if_neg c_1).trans ((if_neg c_2).trans ((if_neg c_3).trans (if_neg c_4)))).symm), ht⟩) (fun _ h => absurd h List.not_mem_nil) dX3_slip_36
        · refine lv_iconst (v := 3) hx hb dX3_slip_27 (by decide) ?_
          refine lv_goto (tgt := 36) hx hb dX3_slip_28 (by decide) ?_
          exact W.iret (v := 3) hx hb hr (fun t ht hW => ⟨3, rfl, (show 3 = zH nk from by unfold zH; exact ((if_neg c_1).trans ((if_neg c_2).trans ((if_neg c_3).trans (if_pos c_4)))).symm), ht⟩) (fun _ h => absurd h List.not_mem_nil) dX3_slip_36
    · refine lv_bipush (v := (-3)) hx hb dX3_slip_12 (by decide) ?_
      exact W.iret (v := (-3)) hx hb hr (fun t ht hW => ⟨(-3), rfl, (show (-3) = zH nk from by unfold zH; exact ((if_neg c_1).trans (if_pos c_2)).symm), ht⟩) (fun _ h => absurd h List.not_mem_nil) dX3_slip_14
set_option maxRecDepth 20000 in
theorem ggX9_slip_X4_slip : GoodIn wsX9_slip wsX4_slip := goodIn_r _ [6] (by decide +kernel) (by decide +kernel)
set_option maxRecDepth 20000 in
theorem gX9_slip_X4_slip_s7 : GoodIn wsX9_slip (va_wsSU RX9 7 yX4_slip wsX4_slip) := goodIn_app (goodIn_of _ (by decide +kernel)) ggX9_slip_X4_slip
theorem dX9_slip_0 : decode cX9_slip 0 = .ok (.aload_n 0, 1) := by decide +kernel
theorem dX9_slip_1 : decode cX9_slip 1 = .ok (.iload_n 1, 1) := by decide +kernel
theorem dX9_slip_2 : decode cX9_slip 2 = .ok (.iconst 2, 1) := by decide +kernel
theorem dX9_slip_3 : decode cX9_slip 3 = .ok (.idiv, 1) := by decide +kernel
theorem dX9_slip_4 : decode cX9_slip 4 = .ok (.invokespecial 7, 3) := by decide +kernel
theorem dX9_slip_7 : decode cX9_slip 7 = .ok (.ireturn, 1) := by decide +kernel
set_option maxHeartbeats 4000000 in
set_option maxRecDepth 100000 in
theorem k_slip_X9 (l : Launch) (dC : Nat → ClassId) (dI : Nat → Nat → Nat) (q0 : Nat) (nk : Int32) : Met l yX9_slip wsX9_slip ({ frames := 1, cells := 0, slots := 0, locals := 21 }) (va_Pc [.ref q0, .int nk] (fun U => va_P (dC, dI) vwCl [(q0, .inr (9, []))] U.heap ∧ va_K (dC, dI) vwCl [] U)) (vp_Si (fun r => r = (zT nk))) 0 0 (fun _ => False) := by
  refine Met.ofW (cc := cX9_slip) (maxL := 2) (ret := (some .int)) (by decide) rfl ?_
  intro p e s m args below meth c s₁ B hml hv
  obtain ⟨rfl, hP, hK⟩ := hv
  have hx := B.exec
  have hb := B.bytes
  have hr := B.returns
  have hts := atoms_spec (ws := wsX9_slip) B.pre
  have hown : s.vm.findClass RX9 = some m.cls := findClass_of_methodNamed B.named
  have hlocks := B.notSynchronized
  have hl := lv_entry ([.ref q0, .int nk]) (n := 2) (Nat.le_of_ble_eq_true rfl)
  rw [lg_entry_eq]
  generalize (lg_sl ([.ref q0, .int nk]) ++ List.replicate (2 - (lg_sl ([.ref q0, .int nk])).length) Slot.unset).toArray = ls at hl ⊢
  have hl : lv_has ls 2 [(0, .ref q0), (1, .int nk)] := hl
  refine lv_aload_n hx hb dX9_slip_0 rfl (lv_at hl 0 rfl) ?_
  refine lv_iload_n hx hb dX9_slip_1 rfl (lv_at hl 1 rfl) ?_
  refine lv_iconst (v := 2) hx hb dX9_slip_2 (by decide) ?_
  refine lv_idiv hx hb dX9_slip_3 (by decide) ?_
  refine vp_callSi (va_Run.run (va_runSU (C := RX9) (As := [.int (nk / 2)]) (rest := []) (hK.1 9 _ rfl).2 ⟨hx, hb, hml, hown, hts⟩ (k_slip_X4 l dC dI q0 (nk / 2)) (va_cwSU 1 hts gX9_slip_X4_slip_s7 rfl rfl rfl (by decide +kernel) ⟨Nat.le_of_ble_eq_true rfl, Nat.le_of_ble_eq_true rfl⟩) ⟨fun a U g mk q => ⟨q.1, trivial⟩, va_recv hK hP (ci := 9) (q0 := 0) rfl rfl, fun U hU hW => ⟨rfl, trivial⟩⟩ rfl rfl hl.1 rfl (lv_room (Nat.le_of_ble_eq_true rfl)) dX9_slip_4 ⟨Nat.le_of_ble_eq_true rfl, Nat.le_of_ble_eq_true rfl⟩)) (fun r_1 hw_2 => ?_)
  obtain rfl : (zO (nk / 2)) = r_1 := hw_2.symm
  exact W.iret (v := (zO (nk / 2))) hx hb hr (fun t ht hW => ⟨(zO (nk / 2)), rfl, rfl, ht⟩) (fun _ h => absurd h List.not_mem_nil) dX9_slip_7
set_option maxHeartbeats 4000000 in
set_option maxRecDepth 100000 in
theorem k_slip_X98 (l : Launch) (dC : Nat → ClassId) (dI : Nat → Nat → Nat) (q0 : Nat) (nk : Int32) : Met l yX9_slip wsX9_slip ({ frames := 1, cells := 0, slots := 0, locals := 21 }) (va_Pc [.ref q0, .int nk] (fun U => va_P (dC, dI) vwCl [(q0, .inr (8, []))] U.heap ∧ va_K (dC, dI) vwCl [] U)) (vp_Si (fun r => r = (zT nk))) 0 0 (fun _ => False) := by
  refine Met.ofW (cc := cX9_slip) (maxL := 2) (ret := (some .int)) (by decide) rfl ?_
  intro p e s m args below meth c s₁ B hml hv
  obtain ⟨rfl, hP, hK⟩ := hv
  have hx := B.exec
  have hb := B.bytes
  have hr := B.returns
  have hts := atoms_spec (ws := wsX9_slip) B.pre
  have hown : s.vm.findClass RX9 = some m.cls := findClass_of_methodNamed B.named
  have hlocks := B.notSynchronized
  have hl := lv_entry ([.ref q0, .int nk]) (n := 2) (Nat.le_of_ble_eq_true rfl)
  rw [lg_entry_eq]
  generalize (lg_sl ([.ref q0, .int nk]) ++ List.replicate (2 - (lg_sl ([.ref q0, .int nk])).length) Slot.unset).toArray = ls at hl ⊢
  have hl : lv_has ls 2 [(0, .ref q0), (1, .int nk)] := hl
  refine lv_aload_n hx hb dX9_slip_0 rfl (lv_at hl 0 rfl) ?_
  refine lv_iload_n hx hb dX9_slip_1 rfl (lv_at hl 1 rfl) ?_
  refine lv_iconst (v := 2) hx hb dX9_slip_2 (by decide) ?_
  refine lv_idiv hx hb dX9_slip_3 (by decide) ?_
  refine vp_callSi (va_Run.run (va_runSU (C := RX8) (As := [.int (nk / 2)]) (rest := []) (hK.1 8 _ rfl).2 ⟨hx, hb, hml, hown, hts⟩ (k_slip_X4 l dC dI q0 (nk / 2)) (va_cwSU 1 hts gX9_slip_X4_slip_s7 rfl rfl rfl (by decide +kernel) ⟨Nat.le_of_ble_eq_true rfl, Nat.le_of_ble_eq_true rfl⟩) ⟨fun a U g mk q => ⟨q.1, trivial⟩, va_recv hK hP (ci := 8) (q0 := 0) rfl rfl, fun U hU hW => ⟨rfl, trivial⟩⟩ rfl rfl hl.1 rfl (lv_room (Nat.le_of_ble_eq_true rfl)) dX9_slip_4 ⟨Nat.le_of_ble_eq_true rfl, Nat.le_of_ble_eq_true rfl⟩)) (fun r_1 hw_2 => ?_)
  obtain rfl : (zO (nk / 2)) = r_1 := hw_2.symm
  exact W.iret (v := (zO (nk / 2))) hx hb hr (fun t ht hW => ⟨(zO (nk / 2)), rfl, rfl, ht⟩) (fun _ h => absurd h List.not_mem_nil) dX9_slip_7
set_option maxRecDepth 20000 in
theorem ggX8_slip_X9_slip : GoodIn wsX8_slip wsX9_slip := goodIn_r _ [6, 7, 8, 9, 10, 11, 12] (by decide +kernel) (by decide +kernel)
set_option maxRecDepth 20000 in
theorem gX8_slip_X9_slip_s7 : GoodIn wsX8_slip (va_wsSU RX8 7 yX9_slip wsX9_slip) := goodIn_app (goodIn_of _ (by decide +kernel)) ggX8_slip_X9_slip
theorem dX8_slip_0 : decode cX8_slip 0 = .ok (.iload_n 1, 1) := by decide +kernel
theorem dX8_slip_1 : decode cX8_slip 1 = .ok (.bipush 6, 2) := by decide +kernel
theorem dX8_slip_3 : decode cX8_slip 3 = .ok (.if_icmp .lt 14, 3) := by decide +kernel
theorem dX8_slip_17 : decode cX8_slip 17 = .ok (.aload_n 0, 1) := by decide +kernel
theorem dX8_slip_18 : decode cX8_slip 18 = .ok (.iload_n 1, 1) := by decide +kernel
theorem dX8_slip_19 : decode cX8_slip 19 = .ok (.invokespecial 7, 3) := by decide +kernel
theorem dX8_slip_22 : decode cX8_slip 22 = .ok (.ireturn, 1) := by decide +kernel
theorem dX8_slip_6 : decode cX8_slip 6 = .ok (.iload_n 1, 1) := by decide +kernel
theorem dX8_slip_7 : decode cX8_slip 7 = .ok (.bipush 8, 2) := by decide +kernel
theorem dX8_slip_9 : decode cX8_slip 9 = .ok (.if_icmp .gt 8, 3) := by decide +kernel
theorem dX8_slip_12 : decode cX8_slip 12 = .ok (.bipush (-2), 2) := by decide +kernel
theorem dX8_slip_14 : decode cX8_slip 14 = .ok (.goto 8, 3) := by decide +kernel
set_option maxHeartbeats 4000000 in
set_option maxRecDepth 100000 in
theorem k_slip_X8 (l : Launch) (dC : Nat → ClassId) (dI : Nat → Nat → Nat) (q0 : Nat) (nk : Int32) : Met l yX8_slip wsX8_slip ({ frames := 2, cells := 0, slots := 0, locals := 42 }) (va_Pc [.ref q0, .int nk] (fun U => va_P (dC, dI) vwCl [(q0, .inr (8, []))] U.heap ∧ va_K (dC, dI) vwCl [] U)) (vp_Si (fun r => r = (zK nk))) 0 0 (fun _ => False) := by
  refine Met.ofW (cc := cX8_slip) (maxL := 2) (ret := (some .int)) (by decide) rfl ?_
  intro p e s m args below meth c s₁ B hml hv
  obtain ⟨rfl, hP, hK⟩ := hv
  have hx := B.exec
  have hb := B.bytes
  have hr := B.returns
  have hts := atoms_spec (ws := wsX8_slip) B.pre
  have hown : s.vm.findClass RX8 = some m.cls := findClass_of_methodNamed B.named
  have hlocks := B.notSynchronized
  have hl := lv_entry ([.ref q0, .int nk]) (n := 2) (Nat.le_of_ble_eq_true rfl)
  rw [lg_entry_eq]
  generalize (lg_sl ([.ref q0, .int nk]) ++ List.replicate (2 - (lg_sl ([.ref q0, .int nk])).length) Slot.unset).toArray = ls at hl ⊢
  have hl : lv_has ls 2 [(0, .ref q0), (1, .int nk)] := hl
  refine lv_iload_n hx hb dX8_slip_0 rfl (lv_at hl 1 rfl) ?_
  refine lv_bipush (v := 6) hx hb dX8_slip_1 (by decide) ?_
  refine lv_icmp_lt (tgt := 17) hx hb dX8_slip_3 (by decide) (fun c_1 => ?_) (fun c_1 => ?_)
  · refine lv_aload_n hx hb dX8_slip_17 rfl (lv_at hl 0 rfl) ?_
    refine lv_iload_n hx hb dX8_slip_18 rfl (lv_at hl 1 rfl) ?_
    have hPc_2 := hP.sub (ws' := [(q0, .inr (8, []))]) [0] rfl
    have hKc_3 := hK.sub (tys' := []) [] rfl
    refine vp_callSi (va_Run.run (va_runSU (C := RX8) (As := [.int nk]) (rest := []) (hK.1 8 _ rfl).2 ⟨hx, hb, hml, hown, hts⟩ (k_slip_X98 l dC dI q0 nk) (va_cwSU 1 hts gX8_slip_X9_slip_s7 rfl rfl rfl (by decide +kernel) ⟨Nat.le_of_ble_eq_true rfl, Nat.le_of_ble_eq_true rfl⟩) ⟨fun a U g mk q => by obtain ⟨q0, qP, qK⟩ := q; exact ⟨q0, qP, va_K.moved (u := U) (U := U.calling g mk a) (Vm.Alike.refl U.vm) qK⟩, va_recv hK hP (ci := 8) (q0 := 0) rfl rfl, fun U hU hW => ⟨rfl, by rw [hU]; exact hPc_2, va_K.moved hW.alike hKc_3⟩⟩ rfl rfl hl.1 rfl (lv_room (Nat.le_of_ble_eq_true rfl)) dX8_slip_19 ⟨Nat.le_of_ble_eq_true rfl, Nat.le_of_ble_eq_true rfl⟩)) (fun r_4 hw_5 => ?_)
    obtain rfl : (zT nk) = r_4 := hw_5.symm
    exact W.iret (v := (zT nk)) hx hb hr (fun t ht hW => ⟨(zT nk), rfl, (show (zT nk) = zK nk from by unfold zK; exact (if_pos c_1).symm), ht⟩) (fun _ h => absurd h List.not_mem_nil) dX8_slip_22
  · refine lv_iload_n hx hb dX8_slip_6 rfl (lv_at hl 1 rfl) ?_
    refine lv_bipush (v := 8) hx hb dX8_slip_7 (by decide) ?_
    refine lv_icmp_gt (tgt := 17) hx hb dX8_slip_9 (by decide) (fun c_6 => ?_) (fun c_6 => ?_)
    · refine lv_aload_n hx hb dX8_slip_17 rfl (lv_at hl 0 rfl) ?_
      refine lv_iload_n hx hb dX8_slip_18 rfl (lv_at hl 1 rfl) ?_
      have hPc_7 := hP.sub (ws' := [(q0, .inr (8, []))]) [0] rfl
      have hKc_8 := hK.sub (tys' := []) [] rfl
      refine vp_callSi (va_Run.run (va_runSU (C := RX8) (As := [.int nk]) (rest := []) (hK.1 8 _ rfl).2 ⟨hx, hb, hml, hown, hts⟩ (k_slip_X98 l dC dI q0 nk) (va_cwSU 1 hts gX8_slip_X9_slip_s7 rfl rfl rfl (by decide +kernel) ⟨Nat.le_of_ble_eq_true rfl, Nat.le_of_ble_eq_true rfl⟩) ⟨fun a U g mk q => by obtain ⟨q0, qP, qK⟩ := q; exact ⟨q0, qP, va_K.moved (u := U) (U := U.calling g mk a) (Vm.Alike.refl U.vm) qK⟩, va_recv hK hP (ci := 8) (q0 := 0) rfl rfl, fun U hU hW => ⟨rfl, by rw [hU]; exact hPc_7, va_K.moved hW.alike hKc_8⟩⟩ rfl rfl hl.1 rfl (lv_room (Nat.le_of_ble_eq_true rfl)) dX8_slip_19 ⟨Nat.le_of_ble_eq_true rfl, Nat.le_of_ble_eq_true rfl⟩)) (fun r_9 hw_10 => ?_)
      obtain rfl : (zT nk) = r_9 := hw_10.symm
      exact W.iret (v := (zT nk)) hx hb hr (fun t ht hW => ⟨(zT nk), rfl, (show (zT nk) = zK nk from by unfold zK; exact ((if_neg c_1).trans (if_pos c_6)).symm), ht⟩) (fun _ h => absurd h List.not_mem_nil) dX8_slip_22
    · refine lv_bipush (v := (-2)) hx hb dX8_slip_12 (by decide) ?_
      refine lv_goto (tgt := 22) hx hb dX8_slip_14 (by decide) ?_
      exact W.iret (v := (-2)) hx hb hr (fun t ht hW => ⟨(-2), rfl, (show (-2) = zK nk from by unfold zK; exact ((if_neg c_1).trans (if_neg c_6)).symm), ht⟩) (fun _ h => absurd h List.not_mem_nil) dX8_slip_22
theorem dX4_minutes_0 : decode cX4_minutes 0 = .ok (.iconst 5, 1) := by decide +kernel
theorem dX4_minutes_1 : decode cX4_minutes 1 = .ok (.ireturn, 1) := by decide +kernel
set_option maxHeartbeats 4000000 in
set_option maxRecDepth 100000 in
theorem k_min_X4 (l : Launch) (dC : Nat → ClassId) (dI : Nat → Nat → Nat) (q0 : Nat) : Met l yX4_minutes wsX4_minutes ({ frames := 0, cells := 0, slots := 0, locals := 0 }) (va_Pc [.ref q0] (fun _ => True)) (vp_Si (fun r => r = 5)) 0 0 (fun _ => False) := by
  refine Met.ofW (cc := cX4_minutes) (maxL := 1) (ret := (some .int)) (by decide) rfl ?_
  intro p e s m args below meth c s₁ B hml hv
  obtain ⟨rfl, -⟩ := hv
  have hx := B.exec
  have hb := B.bytes
  have hr := B.returns
  have hts := atoms_spec (ws := wsX4_minutes) B.pre
  have hown : s.vm.findClass RX4 = some m.cls := findClass_of_methodNamed B.named
  have hlocks := B.notSynchronized
  have hl := lv_entry ([.ref q0]) (n := 1) (Nat.le_of_ble_eq_true rfl)
  rw [lg_entry_eq]
  generalize (lg_sl ([.ref q0]) ++ List.replicate (1 - (lg_sl ([.ref q0])).length) Slot.unset).toArray = ls at hl ⊢
  have hl : lv_has ls 1 [(0, .ref q0)] := hl
  refine lv_iconst (v := 5) hx hb dX4_minutes_0 (by decide) ?_
  exact W.iret (v := 5) hx hb hr (fun t ht hW => ⟨5, rfl, rfl, ht⟩) (fun _ h => absurd h List.not_mem_nil) dX4_minutes_1
theorem dX10_minutes_0 : decode cX10_minutes 0 = .ok (.iconst 1, 1) := by decide +kernel
theorem dX10_minutes_1 : decode cX10_minutes 1 = .ok (.ireturn, 1) := by decide +kernel
set_option maxHeartbeats 4000000 in
set_option maxRecDepth 100000 in
theorem k_min_X10 (l : Launch) (dC : Nat → ClassId) (dI : Nat → Nat → Nat) (q0 : Nat) : Met l yX10_minutes wsX10_minutes ({ frames := 0, cells := 0, slots := 0, locals := 0 }) (va_Pc [.ref q0] (fun _ => True)) (vp_Si (fun r => r = 1)) 0 0 (fun _ => False) := by
  refine Met.ofW (cc := cX10_minutes) (maxL := 1) (ret := (some .int)) (by decide) rfl ?_
  intro p e s m args below meth c s₁ B hml hv
  obtain ⟨rfl, -⟩ := hv
  have hx := B.exec
  have hb := B.bytes
  have hr := B.returns
  have hts := atoms_spec (ws := wsX10_minutes) B.pre
  have hown : s.vm.findClass RX10 = some m.cls := findClass_of_methodNamed B.named
  have hlocks := B.notSynchronized
  have hl := lv_entry ([.ref q0]) (n := 1) (Nat.le_of_ble_eq_true rfl)
  rw [lg_entry_eq]
  generalize (lg_sl ([.ref q0]) ++ List.replicate (1 - (lg_sl ([.ref q0])).length) Slot.unset).toArray = ls at hl ⊢
  have hl : lv_has ls 1 [(0, .ref q0)] := hl
  refine lv_iconst (v := 1) hx hb dX10_minutes_0 (by decide) ?_
  exact W.iret (v := 1) hx hb hr (fun t ht hW => ⟨1, rfl, rfl, ht⟩) (fun _ h => absurd h List.not_mem_nil) dX10_minutes_1
set_option maxRecDepth 20000 in
theorem ggX1_minutes_X4_minutes : GoodIn wsX1_minutes wsX4_minutes := goodIn_r _ [6] (by decide +kernel) (by decide +kernel)
set_option maxRecDepth 20000 in
theorem gX1_minutes_X4_minutes_s11 : GoodIn wsX1_minutes (va_wsSU RX1 11 yX4_minutes wsX4_minutes) := goodIn_app (goodIn_of _ (by decide +kernel)) ggX1_minutes_X4_minutes
theorem dX1_minutes_0 : decode cX1_minutes 0 = .ok (.aload_n 0, 1) := by decide +kernel
theorem dX1_minutes_1 : decode cX1_minutes 1 = .ok (.invokespecial 11, 3) := by decide +kernel
theorem dX1_minutes_4 : decode cX1_minutes 4 = .ok (.iconst 2, 1) := by decide +kernel
theorem dX1_minutes_5 : decode cX1_minutes 5 = .ok (.isub, 1) := by decide +kernel
theorem dX1_minutes_6 : decode cX1_minutes 6 = .ok (.ireturn, 1) := by decide +kernel
set_option maxHeartbeats 4000000 in
set_option maxRecDepth 100000 in
theorem k_min_X1 (l : Launch) (dC : Nat → ClassId) (dI : Nat → Nat → Nat) (q0 : Nat) : Met l yX1_minutes wsX1_minutes ({ frames := 1, cells := 0, slots := 0, locals := 20 }) (va_Pc [.ref q0] (fun U => va_P (dC, dI) vwCl [(q0, .inr (1, []))] U.heap ∧ va_K (dC, dI) vwCl [] U)) (vp_Si (fun r => r = 3)) 0 0 (fun _ => False) := by
  refine Met.ofW (cc := cX1_minutes) (maxL := 1) (ret := (some .int)) (by decide) rfl ?_
  intro p e s m args below meth c s₁ B hml hv
  obtain ⟨rfl, hP, hK⟩ := hv
  have hx := B.exec
  have hb := B.bytes
  have hr := B.returns
  have hts := atoms_spec (ws := wsX1_minutes) B.pre
  have hown : s.vm.findClass RX1 = some m.cls := findClass_of_methodNamed B.named
  have hlocks := B.notSynchronized
  have hl := lv_entry ([.ref q0]) (n := 1) (Nat.le_of_ble_eq_true rfl)
  rw [lg_entry_eq]
  generalize (lg_sl ([.ref q0]) ++ List.replicate (1 - (lg_sl ([.ref q0])).length) Slot.unset).toArray = ls at hl ⊢
  have hl : lv_has ls 1 [(0, .ref q0)] := hl
  refine lv_aload_n hx hb dX1_minutes_0 rfl (lv_at hl 0 rfl) ?_
  refine vp_callSi (va_Run.run (va_runSU (C := RX1) (As := []) (rest := []) (hK.1 1 _ rfl).2 ⟨hx, hb, hml, hown, hts⟩ (k_min_X4 l dC dI q0) (va_cwSU 0 hts gX1_minutes_X4_minutes_s11 rfl rfl rfl (by decide +kernel) ⟨Nat.le_of_ble_eq_true rfl, Nat.le_of_ble_eq_true rfl⟩) ⟨fun a U g mk q => ⟨q.1, trivial⟩, va_recv hK hP (ci := 1) (q0 := 0) rfl rfl, fun U hU hW => ⟨rfl, trivial⟩⟩ rfl rfl hl.1 rfl (lv_room (Nat.le_of_ble_eq_true rfl)) dX1_minutes_1 ⟨Nat.le_of_ble_eq_true rfl, Nat.le_of_ble_eq_true rfl⟩)) (fun r_1 hw_2 => ?_)
  obtain rfl : 5 = r_1 := hw_2.symm
  refine lv_iconst (v := 2) hx hb dX1_minutes_4 (by decide) ?_
  refine lv_isub hx hb dX1_minutes_5 ?_
  refine tz_i 3 (by decide) ?_
  exact W.iret (v := 3) hx hb hr (fun t ht hW => ⟨3, rfl, rfl, ht⟩) (fun _ h => absurd h List.not_mem_nil) dX1_minutes_6
set_option maxRecDepth 20000 in
theorem ggX9_minutes_X4_minutes : GoodIn wsX9_minutes wsX4_minutes := goodIn_r _ [6] (by decide +kernel) (by decide +kernel)
set_option maxRecDepth 20000 in
theorem gX9_minutes_X4_minutes_s11 : GoodIn wsX9_minutes (va_wsSU RX9 11 yX4_minutes wsX4_minutes) := goodIn_app (goodIn_of _ (by decide +kernel)) ggX9_minutes_X4_minutes
theorem dX9_minutes_0 : decode cX9_minutes 0 = .ok (.aload_n 0, 1) := by decide +kernel
theorem dX9_minutes_1 : decode cX9_minutes 1 = .ok (.invokespecial 11, 3) := by decide +kernel
theorem dX9_minutes_4 : decode cX9_minutes 4 = .ok (.iconst 2, 1) := by decide +kernel
theorem dX9_minutes_5 : decode cX9_minutes 5 = .ok (.iadd, 1) := by decide +kernel
theorem dX9_minutes_6 : decode cX9_minutes 6 = .ok (.ireturn, 1) := by decide +kernel
set_option maxHeartbeats 4000000 in
set_option maxRecDepth 100000 in
theorem k_min_X9 (l : Launch) (dC : Nat → ClassId) (dI : Nat → Nat → Nat) (q0 : Nat) : Met l yX9_minutes wsX9_minutes ({ frames := 1, cells := 0, slots := 0, locals := 20 }) (va_Pc [.ref q0] (fun U => va_P (dC, dI) vwCl [(q0, .inr (9, []))] U.heap ∧ va_K (dC, dI) vwCl [] U)) (vp_Si (fun r => r = 7)) 0 0 (fun _ => False) := by
  refine Met.ofW (cc := cX9_minutes) (maxL := 1) (ret := (some .int)) (by decide) rfl ?_
  intro p e s m args below meth c s₁ B hml hv
  obtain ⟨rfl, hP, hK⟩ := hv
  have hx := B.exec
  have hb := B.bytes
  have hr := B.returns
  have hts := atoms_spec (ws := wsX9_minutes) B.pre
  have hown : s.vm.findClass RX9 = some m.cls := findClass_of_methodNamed B.named
  have hlocks := B.notSynchronized
  have hl := lv_entry ([.ref q0]) (n := 1) (Nat.le_of_ble_eq_true rfl)
  rw [lg_entry_eq]
  generalize (lg_sl ([.ref q0]) ++ List.replicate (1 - (lg_sl ([.ref q0])).length) Slot.unset).toArray = ls at hl ⊢
  have hl : lv_has ls 1 [(0, .ref q0)] := hl
  refine lv_aload_n hx hb dX9_minutes_0 rfl (lv_at hl 0 rfl) ?_
  refine vp_callSi (va_Run.run (va_runSU (C := RX9) (As := []) (rest := []) (hK.1 9 _ rfl).2 ⟨hx, hb, hml, hown, hts⟩ (k_min_X4 l dC dI q0) (va_cwSU 0 hts gX9_minutes_X4_minutes_s11 rfl rfl rfl (by decide +kernel) ⟨Nat.le_of_ble_eq_true rfl, Nat.le_of_ble_eq_true rfl⟩) ⟨fun a U g mk q => ⟨q.1, trivial⟩, va_recv hK hP (ci := 9) (q0 := 0) rfl rfl, fun U hU hW => ⟨rfl, trivial⟩⟩ rfl rfl hl.1 rfl (lv_room (Nat.le_of_ble_eq_true rfl)) dX9_minutes_1 ⟨Nat.le_of_ble_eq_true rfl, Nat.le_of_ble_eq_true rfl⟩)) (fun r_1 hw_2 => ?_)
  obtain rfl : 5 = r_1 := hw_2.symm
  refine lv_iconst (v := 2) hx hb dX9_minutes_4 (by decide) ?_
  refine lv_iadd hx hb dX9_minutes_5 ?_
  refine tz_i 7 (by decide) ?_
  exact W.iret (v := 7) hx hb hr (fun t ht hW => ⟨7, rfl, rfl, ht⟩) (fun _ h => absurd h List.not_mem_nil) dX9_minutes_6
set_option maxHeartbeats 4000000 in
set_option maxRecDepth 100000 in
theorem k_min_X8 (l : Launch) (dC : Nat → ClassId) (dI : Nat → Nat → Nat) (q0 : Nat) : Met l yX9_minutes wsX9_minutes ({ frames := 1, cells := 0, slots := 0, locals := 20 }) (va_Pc [.ref q0] (fun U => va_P (dC, dI) vwCl [(q0, .inr (8, []))] U.heap ∧ va_K (dC, dI) vwCl [] U)) (vp_Si (fun r => r = 7)) 0 0 (fun _ => False) := by
  refine Met.ofW (cc := cX9_minutes) (maxL := 1) (ret := (some .int)) (by decide) rfl ?_
  intro p e s m args below meth c s₁ B hml hv
  obtain ⟨rfl, hP, hK⟩ := hv
  have hx := B.exec
  have hb := B.bytes
  have hr := B.returns
  have hts := atoms_spec (ws := wsX9_minutes) B.pre
  have hown : s.vm.findClass RX9 = some m.cls := findClass_of_methodNamed B.named
  have hlocks := B.notSynchronized
  have hl := lv_entry ([.ref q0]) (n := 1) (Nat.le_of_ble_eq_true rfl)
  rw [lg_entry_eq]
  generalize (lg_sl ([.ref q0]) ++ List.replicate (1 - (lg_sl ([.ref q0])).length) Slot.unset).toArray = ls at hl ⊢
  have hl : lv_has ls 1 [(0, .ref q0)] := hl
  refine lv_aload_n hx hb dX9_minutes_0 rfl (lv_at hl 0 rfl) ?_
  refine vp_callSi (va_Run.run (va_runSU (C := RX8) (As := []) (rest := []) (hK.1 8 _ rfl).2 ⟨hx, hb, hml, hown, hts⟩ (k_min_X4 l dC dI q0) (va_cwSU 0 hts gX9_minutes_X4_minutes_s11 rfl rfl rfl (by decide +kernel) ⟨Nat.le_of_ble_eq_true rfl, Nat.le_of_ble_eq_true rfl⟩) ⟨fun a U g mk q => ⟨q.1, trivial⟩, va_recv hK hP (ci := 8) (q0 := 0) rfl rfl, fun U hU hW => ⟨rfl, trivial⟩⟩ rfl rfl hl.1 rfl (lv_room (Nat.le_of_ble_eq_true rfl)) dX9_minutes_1 ⟨Nat.le_of_ble_eq_true rfl, Nat.le_of_ble_eq_true rfl⟩)) (fun r_1 hw_2 => ?_)
  obtain rfl : 5 = r_1 := hw_2.symm
  refine lv_iconst (v := 2) hx hb dX9_minutes_4 (by decide) ?_
  refine lv_iadd hx hb dX9_minutes_5 ?_
  refine tz_i 7 (by decide) ?_
  exact W.iret (v := 7) hx hb hr (fun t ht hW => ⟨7, rfl, rfl, ht⟩) (fun _ h => absurd h List.not_mem_nil) dX9_minutes_6
set_option maxRecDepth 20000 in
theorem ggX4_oddsOff_X4_slip : GoodIn wsX4_oddsOff wsX4_slip := goodIn_r _ [12] (by decide +kernel) (by decide +kernel)
set_option maxRecDepth 20000 in
theorem gX4_oddsOff_X4_slip : GoodIn wsX4_oddsOff (wsV RX4 9 RX4 yX4_slip wsX4_slip) := goodIn_app (goodIn_of _ (by decide +kernel)) ggX4_oddsOff_X4_slip
theorem dX4_oddsOff_0 : decode cX4_oddsOff 0 = .ok (.iconst 0, 1) := by decide +kernel
theorem dX4_oddsOff_1 : decode cX4_oddsOff 1 = .ok (.istore_n 2, 1) := by decide +kernel
theorem dX4_oddsOff_2 : decode cX4_oddsOff 2 = .ok (.iconst 0, 1) := by decide +kernel
theorem dX4_oddsOff_3 : decode cX4_oddsOff 3 = .ok (.istore_n 3, 1) := by decide +kernel
theorem dX4_oddsOff_4 : decode cX4_oddsOff 4 = .ok (.iload_n 3, 1) := by decide +kernel
theorem dX4_oddsOff_5 : decode cX4_oddsOff 5 = .ok (.bipush 20, 2) := by decide +kernel
theorem dX4_oddsOff_7 : decode cX4_oddsOff 7 = .ok (.if_icmp .ge 21, 3) := by decide +kernel
theorem dX4_oddsOff_28 : decode cX4_oddsOff 28 = .ok (.iload_n 2, 1) := by decide +kernel
theorem dX4_oddsOff_29 : decode cX4_oddsOff 29 = .ok (.ireturn, 1) := by decide +kernel
theorem dX4_oddsOff_10 : decode cX4_oddsOff 10 = .ok (.aload_n 0, 1) := by decide +kernel
theorem dX4_oddsOff_11 : decode cX4_oddsOff 11 = .ok (.iload_n 3, 1) := by decide +kernel
theorem dX4_oddsOff_12 : decode cX4_oddsOff 12 = .ok (.invokevirtual 9, 3) := by decide +kernel
theorem dX4_oddsOff_15 : decode cX4_oddsOff 15 = .ok (.iload_n 1, 1) := by decide +kernel
theorem dX4_oddsOff_16 : decode cX4_oddsOff 16 = .ok (.if_icmp .ne 6, 3) := by decide +kernel
theorem dX4_oddsOff_22 : decode cX4_oddsOff 22 = .ok (.iinc 3 1, 3) := by decide +kernel
theorem dX4_oddsOff_25 : decode cX4_oddsOff 25 = .ok (.goto (-21), 3) := by decide +kernel
theorem dX4_oddsOff_19 : decode cX4_oddsOff 19 = .ok (.iinc 2 1, 3) := by decide +kernel
set_option maxHeartbeats 4000000 in
set_option maxRecDepth 100000 in
theorem k_odds_X4 (l : Launch) (dC : Nat → ClassId) (dI : Nat → Nat → Nat) (q0 : Nat) (nv : Int32) : Met l yX4_oddsOff wsX4_oddsOff ({ frames := 1, cells := 0, slots := 0, locals := 21 }) (va_Pc [.ref q0, .int nv] (fun U => va_P (dC, dI) vwCl [(q0, .inr (4, []))] U.heap ∧ va_K (dC, dI) vwCl [] U)) (vp_Si (fun r => r = (zN zO nv 20))) 0 0 (fun _ => False) := by
  refine Met.ofW (cc := cX4_oddsOff) (maxL := 4) (ret := (some .int)) (by decide) rfl ?_
  intro p e s m args below meth c s₁ B hml hv
  obtain ⟨rfl, hP, hK⟩ := hv
  have hx := B.exec
  have hb := B.bytes
  have hr := B.returns
  have hts := atoms_spec (ws := wsX4_oddsOff) B.pre
  have hown : s.vm.findClass RX4 = some m.cls := findClass_of_methodNamed B.named
  have hlocks := B.notSynchronized
  have hl := lv_entry ([.ref q0, .int nv]) (n := 4) (Nat.le_of_ble_eq_true rfl)
  rw [lg_entry_eq]
  generalize (lg_sl ([.ref q0, .int nv]) ++ List.replicate (4 - (lg_sl ([.ref q0, .int nv])).length) Slot.unset).toArray = ls at hl ⊢
  have hl : lv_has ls 4 [(0, .ref q0), (1, .int nv)] := hl
  refine lv_iconst (v := 0) hx hb dX4_oddsOff_0 (by decide) ?_
  refine lv_istore_n (lv' := [(2, .int 0), (0, .ref q0), (1, .int nv)]) hx hb dX4_oddsOff_1 rfl hl (by decide) rfl (fun ls hl => ?_)
  refine lv_iconst (v := 0) hx hb dX4_oddsOff_2 (by decide) ?_
  refine lv_istore_n (lv' := [(3, .int 0), (2, .int 0), (0, .ref q0), (1, .int nv)]) hx hb dX4_oddsOff_3 rfl hl (by decide) rfl (fun ls hl => ?_)
  refine tz_for (σ := Int32 × Int32 × Array Slot) (fun x => W p l e _ s m _ below meth c _ _ _ _ _ (F0 m 4 x.2.2 [])) (fun i x => x.1 = nI i ∧ x.2.1 = zN zO nv i ∧ lv_has x.2.2 4 [(3, .int x.1), (2, .int x.2.1), (0, .ref q0), (1, .int nv)]) 20 ?_ ?_ (0, 0, ls) ⟨rfl, rfl, lv_sub hl [0, 1, 2, 3] rfl⟩
  · rintro ⟨kk, od, ls⟩ ⟨ek, eo, hl⟩
    dsimp only at ek eo hl ⊢
    obtain rfl : 20 = kk := ek.symm
    obtain rfl : zN zO nv 20 = od := eo.symm
    refine lv_iload_n hx hb dX4_oddsOff_4 rfl (lv_at hl 0 rfl) ?_
    refine lv_bipush (v := 20) hx hb dX4_oddsOff_5 (by decide) ?_
    refine lv_icmp_ge (tgt := 28) hx hb dX4_oddsOff_7 (by decide) (fun c_1 => ?_) (fun c_1 => ?_)
    · refine lv_iload_n hx hb dX4_oddsOff_28 rfl (lv_at hl 1 rfl) ?_
      exact W.iret (v := (zN zO nv 20)) hx hb hr (fun t ht hW => ⟨(zN zO nv 20), rfl, rfl, ht⟩) (fun _ h => absurd h List.not_mem_nil) dX4_oddsOff_29
    · exact absurd c_1 (by decide)
  · rintro ii ⟨kk, od, ls⟩ hi ⟨ek, eo, hl⟩ ih
    dsimp only at ek eo hl ⊢
    refine lv_iload_n hx hb dX4_oddsOff_4 rfl (lv_at hl 0 rfl) ?_
    refine lv_bipush (v := 20) hx hb dX4_oddsOff_5 (by decide) ?_
    refine lv_icmp_ge (tgt := 28) hx hb dX4_oddsOff_7 (by decide) (fun c_2 => ?_) (fun c_2 => ?_)
    · exact absurd c_2 (by rw [ek]; exact nI_ge (b := 20) hi (by decide))
    · refine lv_aload_n hx hb dX4_oddsOff_10 rfl (lv_at hl 2 rfl) ?_
      refine lv_iload_n hx hb dX4_oddsOff_11 rfl (lv_at hl 0 rfl) ?_
      refine vp_callSi (va_Run.run (va_runV (As := [.int kk]) (rest := []) ⟨hx, hb, hml, hown, hts⟩ (k_slip_X4 l dC dI q0 kk) (cwV 1 hts gX4_oddsOff_X4_slip rfl rfl rfl (by decide +kernel) ⟨Nat.le_of_ble_eq_true rfl, Nat.le_of_ble_eq_true rfl⟩) ⟨fun a U g mk q => ⟨q.1, trivial⟩, va_recv hK hP (ci := 4) (q0 := 0) rfl rfl, fun U hU hW => ⟨rfl, trivial⟩⟩ rfl rfl hl.1 rfl (lv_room (Nat.le_of_ble_eq_true rfl)) dX4_oddsOff_12 ⟨Nat.le_of_ble_eq_true rfl, Nat.le_of_ble_eq_true rfl⟩)) (fun r_3 hw_4 => ?_)
      obtain rfl : (zO kk) = r_3 := hw_4.symm
      refine lv_iload_n hx hb dX4_oddsOff_15 rfl (lv_at hl 3 rfl) ?_
      refine lv_icmp_ne (tgt := 22) hx hb dX4_oddsOff_16 (by decide) (fun c_5 => ?_) (fun c_5 => ?_)
      · refine lv_iinc (v := (kk + 1)) (lv' := [(3, .int (kk + 1)), (2, .int od), (0, .ref q0), (1, .int nv)]) hx hb dX4_oddsOff_22 hl (k := 0) rfl rfl (by decide) rfl (fun ls hl => ?_)
        refine lv_goto (tgt := 4) hx hb dX4_oddsOff_25 (by decide) ?_
        exact ih (kk + 1, od, ls) ⟨by rw [ek]; exact nI_1 ii, by rw [zN, if_neg (ek ▸ c_5), ← eo], lv_sub hl [0, 1, 2, 3] rfl⟩
      · refine lv_iinc (v := (od + 1)) (lv' := [(2, .int (od + 1)), (3, .int kk), (0, .ref q0), (1, .int nv)]) hx hb dX4_oddsOff_19 hl (k := 1) rfl rfl (by decide) rfl (fun ls hl => ?_)
        refine lv_iinc (v := (kk + 1)) (lv' := [(3, .int (kk + 1)), (2, .int (od + 1)), (0, .ref q0), (1, .int nv)]) hx hb dX4_oddsOff_22 hl (k := 1) rfl rfl (by decide) rfl (fun ls hl => ?_)
        refine lv_goto (tgt := 4) hx hb dX4_oddsOff_25 (by decide) ?_
        exact ih (kk + 1, (od + 1), ls) ⟨by rw [ek]; exact nI_1 ii, by rw [zN, if_pos (ek ▸ c_5), ← eo], lv_sub hl [0, 1, 2, 3] rfl⟩
set_option maxRecDepth 20000 in
theorem ggX4_oddsOff_X1_slip : GoodIn wsX4_oddsOff wsX1_slip := goodIn_r _ [7, 8, 2, 9, 10, 11, 12] (by decide +kernel) (by decide +kernel)
set_option maxRecDepth 20000 in
theorem gX4_oddsOff_X1_slip_u9X1 : GoodIn wsX4_oddsOff (va_wsO RX4 9 RX1 "ThriceCounted$Ones" ⟨"ThriceCounted$Ones", "slip", "(I)I"⟩ yX1_slip wsX1_slip) := goodIn_app (goodIn_of _ (by decide +kernel)) ggX4_oddsOff_X1_slip
set_option maxHeartbeats 4000000 in
set_option maxRecDepth 100000 in
theorem k_odds_X1 (l : Launch) (dC : Nat → ClassId) (dI : Nat → Nat → Nat) (q0 : Nat) (nv : Int32) : Met l yX4_oddsOff wsX4_oddsOff ({ frames := 2, cells := 0, slots := 0, locals := 42 }) (va_Pc [.ref q0, .int nv] (fun U => va_P (dC, dI) vwCl [(q0, .inr (1, []))] U.heap ∧ va_K (dC, dI) vwCl [] U)) (vp_Si (fun r => r = (zN zF nv 20))) 0 0 (fun _ => False) := by
  refine Met.ofW (cc := cX4_oddsOff) (maxL := 4) (ret := (some .int)) (by decide) rfl ?_
  intro p e s m args below meth c s₁ B hml hv
  obtain ⟨rfl, hP, hK⟩ := hv
  have hx := B.exec
  have hb := B.bytes
  have hr := B.returns
  have hts := atoms_spec (ws := wsX4_oddsOff) B.pre
  have hown : s.vm.findClass RX4 = some m.cls := findClass_of_methodNamed B.named
  have hlocks := B.notSynchronized
  have hl := lv_entry ([.ref q0, .int nv]) (n := 4) (Nat.le_of_ble_eq_true rfl)
  rw [lg_entry_eq]
  generalize (lg_sl ([.ref q0, .int nv]) ++ List.replicate (4 - (lg_sl ([.ref q0, .int nv])).length) Slot.unset).toArray = ls at hl ⊢
  have hl : lv_has ls 4 [(0, .ref q0), (1, .int nv)] := hl
  refine lv_iconst (v := 0) hx hb dX4_oddsOff_0 (by decide) ?_
  refine lv_istore_n (lv' := [(2, .int 0), (0, .ref q0), (1, .int nv)]) hx hb dX4_oddsOff_1 rfl hl (by decide) rfl (fun ls hl => ?_)
  refine lv_iconst (v := 0) hx hb dX4_oddsOff_2 (by decide) ?_
  refine lv_istore_n (lv' := [(3, .int 0), (2, .int 0), (0, .ref q0), (1, .int nv)]) hx hb dX4_oddsOff_3 rfl hl (by decide) rfl (fun ls hl => ?_)
  refine tz_for (σ := Int32 × Int32 × Array Slot) (fun x => W p l e _ s m _ below meth c _ _ _ _ _ (F0 m 4 x.2.2 [])) (fun i x => x.1 = nI i ∧ x.2.1 = zN zF nv i ∧ lv_has x.2.2 4 [(3, .int x.1), (2, .int x.2.1), (0, .ref q0), (1, .int nv)]) 20 ?_ ?_ (0, 0, ls) ⟨rfl, rfl, lv_sub hl [0, 1, 2, 3] rfl⟩
  · rintro ⟨kk, od, ls⟩ ⟨ek, eo, hl⟩
    dsimp only at ek eo hl ⊢
    obtain rfl : 20 = kk := ek.symm
    obtain rfl : zN zF nv 20 = od := eo.symm
    refine lv_iload_n hx hb dX4_oddsOff_4 rfl (lv_at hl 0 rfl) ?_
    refine lv_bipush (v := 20) hx hb dX4_oddsOff_5 (by decide) ?_
    refine lv_icmp_ge (tgt := 28) hx hb dX4_oddsOff_7 (by decide) (fun c_1 => ?_) (fun c_1 => ?_)
    · refine lv_iload_n hx hb dX4_oddsOff_28 rfl (lv_at hl 1 rfl) ?_
      exact W.iret (v := (zN zF nv 20)) hx hb hr (fun t ht hW => ⟨(zN zF nv 20), rfl, rfl, ht⟩) (fun _ h => absurd h List.not_mem_nil) dX4_oddsOff_29
    · exact absurd c_1 (by decide)
  · rintro ii ⟨kk, od, ls⟩ hi ⟨ek, eo, hl⟩ ih
    dsimp only at ek eo hl ⊢
    refine lv_iload_n hx hb dX4_oddsOff_4 rfl (lv_at hl 0 rfl) ?_
    refine lv_bipush (v := 20) hx hb dX4_oddsOff_5 (by decide) ?_
    refine lv_icmp_ge (tgt := 28) hx hb dX4_oddsOff_7 (by decide) (fun c_2 => ?_) (fun c_2 => ?_)
    · exact absurd c_2 (by rw [ek]; exact nI_ge (b := 20) hi (by decide))
    · refine lv_aload_n hx hb dX4_oddsOff_10 rfl (lv_at hl 2 rfl) ?_
      refine lv_iload_n hx hb dX4_oddsOff_11 rfl (lv_at hl 0 rfl) ?_
      have hPc_3 := hP.sub (ws' := [(q0, .inr (1, []))]) [0] rfl
      have hKc_4 := hK.sub (tys' := []) [] rfl
      refine vp_callSi (va_Run.run (va_runU (C := RX1) (As := [.int kk]) (rest := []) ⟨hx, hb, hml, hown, hts⟩ (k_slip_X1 l dC dI q0 kk) (va_cwO 1 hts gX4_oddsOff_X1_slip_u9X1 rfl rfl rfl (b0 := cX4_slip) (m0 := 2) (r0 := (some .int)) (by decide +kernel) (by decide +kernel) ⟨Nat.le_of_ble_eq_true rfl, Nat.le_of_ble_eq_true rfl⟩) ⟨fun a U g mk q => by obtain ⟨q0, qP, qK⟩ := q; exact ⟨q0, qP, va_K.moved (u := U) (U := U.calling g mk a) (Vm.Alike.refl U.vm) qK⟩, va_recv hK hP (ci := 1) (q0 := 0) rfl rfl, fun U hU hW => ⟨rfl, by rw [hU]; exact hPc_3, va_K.moved hW.alike hKc_4⟩⟩ rfl rfl hl.1 rfl (lv_room (Nat.le_of_ble_eq_true rfl)) dX4_oddsOff_12 ⟨Nat.le_of_ble_eq_true rfl, Nat.le_of_ble_eq_true rfl⟩)) (fun r_5 hw_6 => ?_)
      obtain rfl : (zF kk) = r_5 := hw_6.symm
      refine lv_iload_n hx hb dX4_oddsOff_15 rfl (lv_at hl 3 rfl) ?_
      refine lv_icmp_ne (tgt := 22) hx hb dX4_oddsOff_16 (by decide) (fun c_7 => ?_) (fun c_7 => ?_)
      · refine lv_iinc (v := (kk + 1)) (lv' := [(3, .int (kk + 1)), (2, .int od), (0, .ref q0), (1, .int nv)]) hx hb dX4_oddsOff_22 hl (k := 0) rfl rfl (by decide) rfl (fun ls hl => ?_)
        refine lv_goto (tgt := 4) hx hb dX4_oddsOff_25 (by decide) ?_
        exact ih (kk + 1, od, ls) ⟨by rw [ek]; exact nI_1 ii, by rw [zN, if_neg (ek ▸ c_7), ← eo], lv_sub hl [0, 1, 2, 3] rfl⟩
      · refine lv_iinc (v := (od + 1)) (lv' := [(2, .int (od + 1)), (3, .int kk), (0, .ref q0), (1, .int nv)]) hx hb dX4_oddsOff_19 hl (k := 1) rfl rfl (by decide) rfl (fun ls hl => ?_)
        refine lv_iinc (v := (kk + 1)) (lv' := [(3, .int (kk + 1)), (2, .int (od + 1)), (0, .ref q0), (1, .int nv)]) hx hb dX4_oddsOff_22 hl (k := 1) rfl rfl (by decide) rfl (fun ls hl => ?_)
        refine lv_goto (tgt := 4) hx hb dX4_oddsOff_25 (by decide) ?_
        exact ih (kk + 1, (od + 1), ls) ⟨by rw [ek]; exact nI_1 ii, by rw [zN, if_pos (ek ▸ c_7), ← eo], lv_sub hl [0, 1, 2, 3] rfl⟩
set_option maxRecDepth 20000 in
theorem ggX4_oddsOff_X10_slip : GoodIn wsX4_oddsOff wsX10_slip := goodIn_r _ [22] (by decide +kernel) (by decide +kernel)
set_option maxRecDepth 20000 in
theorem gX4_oddsOff_X10_slip_u9X10 : GoodIn wsX4_oddsOff (va_wsO RX4 9 RX10 "ThriceCounted$Ones" ⟨"ThriceCounted$Ones", "slip", "(I)I"⟩ yX10_slip wsX10_slip) := goodIn_app (goodIn_of _ (by decide +kernel)) ggX4_oddsOff_X10_slip
set_option maxHeartbeats 4000000 in
set_option maxRecDepth 100000 in
theorem k_odds_X10 (l : Launch) (dC : Nat → ClassId) (dI : Nat → Nat → Nat) (q0 : Nat) (nv : Int32) : Met l yX4_oddsOff wsX4_oddsOff ({ frames := 1, cells := 0, slots := 0, locals := 21 }) (va_Pc [.ref q0, .int nv] (fun U => va_P (dC, dI) vwCl [(q0, .inr (10, []))] U.heap ∧ va_K (dC, dI) vwCl [] U)) (vp_Si (fun r => r = (zN zW nv 20))) 0 0 (fun _ => False) := by
  refine Met.ofW (cc := cX4_oddsOff) (maxL := 4) (ret := (some .int)) (by decide) rfl ?_
  intro p e s m args below meth c s₁ B hml hv
  obtain ⟨rfl, hP, hK⟩ := hv
  have hx := B.exec
  have hb := B.bytes
  have hr := B.returns
  have hts := atoms_spec (ws := wsX4_oddsOff) B.pre
  have hown : s.vm.findClass RX4 = some m.cls := findClass_of_methodNamed B.named
  have hlocks := B.notSynchronized
  have hl := lv_entry ([.ref q0, .int nv]) (n := 4) (Nat.le_of_ble_eq_true rfl)
  rw [lg_entry_eq]
  generalize (lg_sl ([.ref q0, .int nv]) ++ List.replicate (4 - (lg_sl ([.ref q0, .int nv])).length) Slot.unset).toArray = ls at hl ⊢
  have hl : lv_has ls 4 [(0, .ref q0), (1, .int nv)] := hl
  refine lv_iconst (v := 0) hx hb dX4_oddsOff_0 (by decide) ?_
  refine lv_istore_n (lv' := [(2, .int 0), (0, .ref q0), (1, .int nv)]) hx hb dX4_oddsOff_1 rfl hl (by decide) rfl (fun ls hl => ?_)
  refine lv_iconst (v := 0) hx hb dX4_oddsOff_2 (by decide) ?_
  refine lv_istore_n (lv' := [(3, .int 0), (2, .int 0), (0, .ref q0), (1, .int nv)]) hx hb dX4_oddsOff_3 rfl hl (by decide) rfl (fun ls hl => ?_)
  refine tz_for (σ := Int32 × Int32 × Array Slot) (fun x => W p l e _ s m _ below meth c _ _ _ _ _ (F0 m 4 x.2.2 [])) (fun i x => x.1 = nI i ∧ x.2.1 = zN zW nv i ∧ lv_has x.2.2 4 [(3, .int x.1), (2, .int x.2.1), (0, .ref q0), (1, .int nv)]) 20 ?_ ?_ (0, 0, ls) ⟨rfl, rfl, lv_sub hl [0, 1, 2, 3] rfl⟩
  · rintro ⟨kk, od, ls⟩ ⟨ek, eo, hl⟩
    dsimp only at ek eo hl ⊢
    obtain rfl : 20 = kk := ek.symm
    obtain rfl : zN zW nv 20 = od := eo.symm
    refine lv_iload_n hx hb dX4_oddsOff_4 rfl (lv_at hl 0 rfl) ?_
    refine lv_bipush (v := 20) hx hb dX4_oddsOff_5 (by decide) ?_
    refine lv_icmp_ge (tgt := 28) hx hb dX4_oddsOff_7 (by decide) (fun c_1 => ?_) (fun c_1 => ?_)
    · refine lv_iload_n hx hb dX4_oddsOff_28 rfl (lv_at hl 1 rfl) ?_
      exact W.iret (v := (zN zW nv 20)) hx hb hr (fun t ht hW => ⟨(zN zW nv 20), rfl, rfl, ht⟩) (fun _ h => absurd h List.not_mem_nil) dX4_oddsOff_29
    · exact absurd c_1 (by decide)
  · rintro ii ⟨kk, od, ls⟩ hi ⟨ek, eo, hl⟩ ih
    dsimp only at ek eo hl ⊢
    refine lv_iload_n hx hb dX4_oddsOff_4 rfl (lv_at hl 0 rfl) ?_
    refine lv_bipush (v := 20) hx hb dX4_oddsOff_5 (by decide) ?_
    refine lv_icmp_ge (tgt := 28) hx hb dX4_oddsOff_7 (by decide) (fun c_2 => ?_) (fun c_2 => ?_)
    · exact absurd c_2 (by rw [ek]; exact nI_ge (b := 20) hi (by decide))
    · refine lv_aload_n hx hb dX4_oddsOff_10 rfl (lv_at hl 2 rfl) ?_
      refine lv_iload_n hx hb dX4_oddsOff_11 rfl (lv_at hl 0 rfl) ?_
      refine vp_callSi (va_Run.run (va_runU (C := RX10) (As := [.int kk]) (rest := []) ⟨hx, hb, hml, hown, hts⟩ (k_slip_X10 l dC dI q0 kk) (va_cwO 1 hts gX4_oddsOff_X10_slip_u9X10 rfl rfl rfl (b0 := cX4_slip) (m0 := 2) (r0 := (some .int)) (by decide +kernel) (by decide +kernel) ⟨Nat.le_of_ble_eq_true rfl, Nat.le_of_ble_eq_true rfl⟩) ⟨fun a U g mk q => ⟨q.1, trivial⟩, va_recv hK hP (ci := 10) (q0 := 0) rfl rfl, fun U hU hW => ⟨rfl, trivial⟩⟩ rfl rfl hl.1 rfl (lv_room (Nat.le_of_ble_eq_true rfl)) dX4_oddsOff_12 ⟨Nat.le_of_ble_eq_true rfl, Nat.le_of_ble_eq_true rfl⟩)) (fun r_3 hw_4 => ?_)
      obtain rfl : (zW kk) = r_3 := hw_4.symm
      refine lv_iload_n hx hb dX4_oddsOff_15 rfl (lv_at hl 3 rfl) ?_
      refine lv_icmp_ne (tgt := 22) hx hb dX4_oddsOff_16 (by decide) (fun c_5 => ?_) (fun c_5 => ?_)
      · refine lv_iinc (v := (kk + 1)) (lv' := [(3, .int (kk + 1)), (2, .int od), (0, .ref q0), (1, .int nv)]) hx hb dX4_oddsOff_22 hl (k := 0) rfl rfl (by decide) rfl (fun ls hl => ?_)
        refine lv_goto (tgt := 4) hx hb dX4_oddsOff_25 (by decide) ?_
        exact ih (kk + 1, od, ls) ⟨by rw [ek]; exact nI_1 ii, by rw [zN, if_neg (ek ▸ c_5), ← eo], lv_sub hl [0, 1, 2, 3] rfl⟩
      · refine lv_iinc (v := (od + 1)) (lv' := [(2, .int (od + 1)), (3, .int kk), (0, .ref q0), (1, .int nv)]) hx hb dX4_oddsOff_19 hl (k := 1) rfl rfl (by decide) rfl (fun ls hl => ?_)
        refine lv_iinc (v := (kk + 1)) (lv' := [(3, .int (kk + 1)), (2, .int (od + 1)), (0, .ref q0), (1, .int nv)]) hx hb dX4_oddsOff_22 hl (k := 1) rfl rfl (by decide) rfl (fun ls hl => ?_)
        refine lv_goto (tgt := 4) hx hb dX4_oddsOff_25 (by decide) ?_
        exact ih (kk + 1, (od + 1), ls) ⟨by rw [ek]; exact nI_1 ii, by rw [zN, if_pos (ek ▸ c_5), ← eo], lv_sub hl [0, 1, 2, 3] rfl⟩
set_option maxRecDepth 20000 in
theorem ggX4_oddsOff_X3_slip : GoodIn wsX4_oddsOff wsX3_slip := goodIn_r _ [16, 17, 18, 19, 20, 21, 22] (by decide +kernel) (by decide +kernel)
set_option maxRecDepth 20000 in
theorem gX4_oddsOff_X3_slip_u9X3 : GoodIn wsX4_oddsOff (va_wsO RX4 9 RX3 "ThriceCounted$Ones" ⟨"ThriceCounted$Ones", "slip", "(I)I"⟩ yX3_slip wsX3_slip) := goodIn_app (goodIn_of _ (by decide +kernel)) ggX4_oddsOff_X3_slip
set_option maxHeartbeats 4000000 in
set_option maxRecDepth 100000 in
theorem k_odds_X3 (l : Launch) (dC : Nat → ClassId) (dI : Nat → Nat → Nat) (q0 : Nat) (nv : Int32) : Met l yX4_oddsOff wsX4_oddsOff ({ frames := 2, cells := 0, slots := 0, locals := 42 }) (va_Pc [.ref q0, .int nv] (fun U => va_P (dC, dI) vwCl [(q0, .inr (3, []))] U.heap ∧ va_K (dC, dI) vwCl [] U)) (vp_Si (fun r => r = (zN zH nv 20))) 0 0 (fun _ => False) := by
  refine Met.ofW (cc := cX4_oddsOff) (maxL := 4) (ret := (some .int)) (by decide) rfl ?_
  intro p e s m args below meth c s₁ B hml hv
  obtain ⟨rfl, hP, hK⟩ := hv
  have hx := B.exec
  have hb := B.bytes
  have hr := B.returns
  have hts := atoms_spec (ws := wsX4_oddsOff) B.pre
  have hown : s.vm.findClass RX4 = some m.cls := findClass_of_methodNamed B.named
  have hlocks := B.notSynchronized
  have hl := lv_entry ([.ref q0, .int nv]) (n := 4) (Nat.le_of_ble_eq_true rfl)
  rw [lg_entry_eq]
  generalize (lg_sl ([.ref q0, .int nv]) ++ List.replicate (4 - (lg_sl ([.ref q0, .int nv])).length) Slot.unset).toArray = ls at hl ⊢
  have hl : lv_has ls 4 [(0, .ref q0), (1, .int nv)] := hl
  refine lv_iconst (v := 0) hx hb dX4_oddsOff_0 (by decide) ?_
  refine lv_istore_n (lv' := [(2, .int 0), (0, .ref q0), (1, .int nv)]) hx hb dX4_oddsOff_1 rfl hl (by decide) rfl (fun ls hl => ?_)
  refine lv_iconst (v := 0) hx hb dX4_oddsOff_2 (by decide) ?_
  refine lv_istore_n (lv' := [(3, .int 0), (2, .int 0), (0, .ref q0), (1, .int nv)]) hx hb dX4_oddsOff_3 rfl hl (by decide) rfl (fun ls hl => ?_)
  refine tz_for (σ := Int32 × Int32 × Array Slot) (fun x => W p l e _ s m _ below meth c _ _ _ _ _ (F0 m 4 x.2.2 [])) (fun i x => x.1 = nI i ∧ x.2.1 = zN zH nv i ∧ lv_has x.2.2 4 [(3, .int x.1), (2, .int x.2.1), (0, .ref q0), (1, .int nv)]) 20 ?_ ?_ (0, 0, ls) ⟨rfl, rfl, lv_sub hl [0, 1, 2, 3] rfl⟩
  · rintro ⟨kk, od, ls⟩ ⟨ek, eo, hl⟩
    dsimp only at ek eo hl ⊢
    obtain rfl : 20 = kk := ek.symm
    obtain rfl : zN zH nv 20 = od := eo.symm
    refine lv_iload_n hx hb dX4_oddsOff_4 rfl (lv_at hl 0 rfl) ?_
    refine lv_bipush (v := 20) hx hb dX4_oddsOff_5 (by decide) ?_
    refine lv_icmp_ge (tgt := 28) hx hb dX4_oddsOff_7 (by decide) (fun c_1 => ?_) (fun c_1 => ?_)
    · refine lv_iload_n hx hb dX4_oddsOff_28 rfl (lv_at hl 1 rfl) ?_
      exact W.iret (v := (zN zH nv 20)) hx hb hr (fun t ht hW => ⟨(zN zH nv 20), rfl, rfl, ht⟩) (fun _ h => absurd h List.not_mem_nil) dX4_oddsOff_29
    · exact absurd c_1 (by decide)
  · rintro ii ⟨kk, od, ls⟩ hi ⟨ek, eo, hl⟩ ih
    dsimp only at ek eo hl ⊢
    refine lv_iload_n hx hb dX4_oddsOff_4 rfl (lv_at hl 0 rfl) ?_
    refine lv_bipush (v := 20) hx hb dX4_oddsOff_5 (by decide) ?_
    refine lv_icmp_ge (tgt := 28) hx hb dX4_oddsOff_7 (by decide) (fun c_2 => ?_) (fun c_2 => ?_)
    · exact absurd c_2 (by rw [ek]; exact nI_ge (b := 20) hi (by decide))
    · refine lv_aload_n hx hb dX4_oddsOff_10 rfl (lv_at hl 2 rfl) ?_
      refine lv_iload_n hx hb dX4_oddsOff_11 rfl (lv_at hl 0 rfl) ?_
      have hPc_3 := hP.sub (ws' := [(q0, .inr (3, []))]) [0] rfl
      have hKc_4 := hK.sub (tys' := []) [] rfl
      refine vp_callSi (va_Run.run (va_runU (C := RX3) (As := [.int kk]) (rest := []) ⟨hx, hb, hml, hown, hts⟩ (k_slip_X3 l dC dI q0 kk) (va_cwO 1 hts gX4_oddsOff_X3_slip_u9X3 rfl rfl rfl (b0 := cX4_slip) (m0 := 2) (r0 := (some .int)) (by decide +kernel) (by decide +kernel) ⟨Nat.le_of_ble_eq_true rfl, Nat.le_of_ble_eq_true rfl⟩) ⟨fun a U g mk q => by obtain ⟨q0, qP, qK⟩ := q; exact ⟨q0, qP, va_K.moved (u := U) (U := U.calling g mk a) (Vm.Alike.refl U.vm) qK⟩, va_recv hK hP (ci := 3) (q0 := 0) rfl rfl, fun U hU hW => ⟨rfl, by rw [hU]; exact hPc_3, va_K.moved hW.alike hKc_4⟩⟩ rfl rfl hl.1 rfl (lv_room (Nat.le_of_ble_eq_true rfl)) dX4_oddsOff_12 ⟨Nat.le_of_ble_eq_true rfl, Nat.le_of_ble_eq_true rfl⟩)) (fun r_5 hw_6 => ?_)
      obtain rfl : (zH kk) = r_5 := hw_6.symm
      refine lv_iload_n hx hb dX4_oddsOff_15 rfl (lv_at hl 3 rfl) ?_
      refine lv_icmp_ne (tgt := 22) hx hb dX4_oddsOff_16 (by decide) (fun c_7 => ?_) (fun c_7 => ?_)
      · refine lv_iinc (v := (kk + 1)) (lv' := [(3, .int (kk + 1)), (2, .int od), (0, .ref q0), (1, .int nv)]) hx hb dX4_oddsOff_22 hl (k := 0) rfl rfl (by decide) rfl (fun ls hl => ?_)
        refine lv_goto (tgt := 4) hx hb dX4_oddsOff_25 (by decide) ?_
        exact ih (kk + 1, od, ls) ⟨by rw [ek]; exact nI_1 ii, by rw [zN, if_neg (ek ▸ c_7), ← eo], lv_sub hl [0, 1, 2, 3] rfl⟩
      · refine lv_iinc (v := (od + 1)) (lv' := [(2, .int (od + 1)), (3, .int kk), (0, .ref q0), (1, .int nv)]) hx hb dX4_oddsOff_19 hl (k := 1) rfl rfl (by decide) rfl (fun ls hl => ?_)
        refine lv_iinc (v := (kk + 1)) (lv' := [(3, .int (kk + 1)), (2, .int (od + 1)), (0, .ref q0), (1, .int nv)]) hx hb dX4_oddsOff_22 hl (k := 1) rfl rfl (by decide) rfl (fun ls hl => ?_)
        refine lv_goto (tgt := 4) hx hb dX4_oddsOff_25 (by decide) ?_
        exact ih (kk + 1, (od + 1), ls) ⟨by rw [ek]; exact nI_1 ii, by rw [zN, if_pos (ek ▸ c_7), ← eo], lv_sub hl [0, 1, 2, 3] rfl⟩
set_option maxRecDepth 20000 in
theorem ggX4_oddsOff_X9_slip : GoodIn wsX4_oddsOff wsX9_slip := goodIn_r _ [34, 35, 2, 36, 10, 11, 12] (by decide +kernel) (by decide +kernel)
set_option maxRecDepth 20000 in
theorem gX4_oddsOff_X9_slip_u9X9 : GoodIn wsX4_oddsOff (va_wsO RX4 9 RX9 "ThriceCounted$Ones" ⟨"ThriceCounted$Ones", "slip", "(I)I"⟩ yX9_slip wsX9_slip) := goodIn_app (goodIn_of _ (by decide +kernel)) ggX4_oddsOff_X9_slip
set_option maxHeartbeats 4000000 in
set_option maxRecDepth 100000 in
theorem k_odds_X9 (l : Launch) (dC : Nat → ClassId) (dI : Nat → Nat → Nat) (q0 : Nat) (nv : Int32) : Met l yX4_oddsOff wsX4_oddsOff ({ frames := 2, cells := 0, slots := 0, locals := 42 }) (va_Pc [.ref q0, .int nv] (fun U => va_P (dC, dI) vwCl [(q0, .inr (9, []))] U.heap ∧ va_K (dC, dI) vwCl [] U)) (vp_Si (fun r => r = (zN zT nv 20))) 0 0 (fun _ => False) := by
  refine Met.ofW (cc := cX4_oddsOff) (maxL := 4) (ret := (some .int)) (by decide) rfl ?_
  intro p e s m args below meth c s₁ B hml hv
  obtain ⟨rfl, hP, hK⟩ := hv
  have hx := B.exec
  have hb := B.bytes
  have hr := B.returns
  have hts := atoms_spec (ws := wsX4_oddsOff) B.pre
  have hown : s.vm.findClass RX4 = some m.cls := findClass_of_methodNamed B.named
  have hlocks := B.notSynchronized
  have hl := lv_entry ([.ref q0, .int nv]) (n := 4) (Nat.le_of_ble_eq_true rfl)
  rw [lg_entry_eq]
  generalize (lg_sl ([.ref q0, .int nv]) ++ List.replicate (4 - (lg_sl ([.ref q0, .int nv])).length) Slot.unset).toArray = ls at hl ⊢
  have hl : lv_has ls 4 [(0, .ref q0), (1, .int nv)] := hl
  refine lv_iconst (v := 0) hx hb dX4_oddsOff_0 (by decide) ?_
  refine lv_istore_n (lv' := [(2, .int 0), (0, .ref q0), (1, .int nv)]) hx hb dX4_oddsOff_1 rfl hl (by decide) rfl (fun ls hl => ?_)
  refine lv_iconst (v := 0) hx hb dX4_oddsOff_2 (by decide) ?_
  refine lv_istore_n (lv' := [(3, .int 0), (2, .int 0), (0, .ref q0), (1, .int nv)]) hx hb dX4_oddsOff_3 rfl hl (by decide) rfl (fun ls hl => ?_)
  refine tz_for (σ := Int32 × Int32 × Array Slot) (fun x => W p l e _ s m _ below meth c _ _ _ _ _ (F0 m 4 x.2.2 [])) (fun i x => x.1 = nI i ∧ x.2.1 = zN zT nv i ∧ lv_has x.2.2 4 [(3, .int x.1), (2, .int x.2.1), (0, .ref q0), (1, .int nv)]) 20 ?_ ?_ (0, 0, ls) ⟨rfl, rfl, lv_sub hl [0, 1, 2, 3] rfl⟩
  · rintro ⟨kk, od, ls⟩ ⟨ek, eo, hl⟩
    dsimp only at ek eo hl ⊢
    obtain rfl : 20 = kk := ek.symm
    obtain rfl : zN zT nv 20 = od := eo.symm
    refine lv_iload_n hx hb dX4_oddsOff_4 rfl (lv_at hl 0 rfl) ?_
    refine lv_bipush (v := 20) hx hb dX4_oddsOff_5 (by decide) ?_
    refine lv_icmp_ge (tgt := 28) hx hb dX4_oddsOff_7 (by decide) (fun c_1 => ?_) (fun c_1 => ?_)
    · refine lv_iload_n hx hb dX4_oddsOff_28 rfl (lv_at hl 1 rfl) ?_
      exact W.iret (v := (zN zT nv 20)) hx hb hr (fun t ht hW => ⟨(zN zT nv 20), rfl, rfl, ht⟩) (fun _ h => absurd h List.not_mem_nil) dX4_oddsOff_29
    · exact absurd c_1 (by decide)
  · rintro ii ⟨kk, od, ls⟩ hi ⟨ek, eo, hl⟩ ih
    dsimp only at ek eo hl ⊢
    refine lv_iload_n hx hb dX4_oddsOff_4 rfl (lv_at hl 0 rfl) ?_
    refine lv_bipush (v := 20) hx hb dX4_oddsOff_5 (by decide) ?_
    refine lv_icmp_ge (tgt := 28) hx hb dX4_oddsOff_7 (by decide) (fun c_2 => ?_) (fun c_2 => ?_)
    · exact absurd c_2 (by rw [ek]; exact nI_ge (b := 20) hi (by decide))
    · refine lv_aload_n hx hb dX4_oddsOff_10 rfl (lv_at hl 2 rfl) ?_
      refine lv_iload_n hx hb dX4_oddsOff_11 rfl (lv_at hl 0 rfl) ?_
      have hPc_3 := hP.sub (ws' := [(q0, .inr (9, []))]) [0] rfl
      have hKc_4 := hK.sub (tys' := []) [] rfl
      refine vp_callSi (va_Run.run (va_runU (C := RX9) (As := [.int kk]) (rest := []) ⟨hx, hb, hml, hown, hts⟩ (k_slip_X9 l dC dI q0 kk) (va_cwO 1 hts gX4_oddsOff_X9_slip_u9X9 rfl rfl rfl (b0 := cX4_slip) (m0 := 2) (r0 := (some .int)) (by decide +kernel) (by decide +kernel) ⟨Nat.le_of_ble_eq_true rfl, Nat.le_of_ble_eq_true rfl⟩) ⟨fun a U g mk q => by obtain ⟨q0, qP, qK⟩ := q; exact ⟨q0, qP, va_K.moved (u := U) (U := U.calling g mk a) (Vm.Alike.refl U.vm) qK⟩, va_recv hK hP (ci := 9) (q0 := 0) rfl rfl, fun U hU hW => ⟨rfl, by rw [hU]; exact hPc_3, va_K.moved hW.alike hKc_4⟩⟩ rfl rfl hl.1 rfl (lv_room (Nat.le_of_ble_eq_true rfl)) dX4_oddsOff_12 ⟨Nat.le_of_ble_eq_true rfl, Nat.le_of_ble_eq_true rfl⟩)) (fun r_5 hw_6 => ?_)
      obtain rfl : (zT kk) = r_5 := hw_6.symm
      refine lv_iload_n hx hb dX4_oddsOff_15 rfl (lv_at hl 3 rfl) ?_
      refine lv_icmp_ne (tgt := 22) hx hb dX4_oddsOff_16 (by decide) (fun c_7 => ?_) (fun c_7 => ?_)
      · refine lv_iinc (v := (kk + 1)) (lv' := [(3, .int (kk + 1)), (2, .int od), (0, .ref q0), (1, .int nv)]) hx hb dX4_oddsOff_22 hl (k := 0) rfl rfl (by decide) rfl (fun ls hl => ?_)
        refine lv_goto (tgt := 4) hx hb dX4_oddsOff_25 (by decide) ?_
        exact ih (kk + 1, od, ls) ⟨by rw [ek]; exact nI_1 ii, by rw [zN, if_neg (ek ▸ c_7), ← eo], lv_sub hl [0, 1, 2, 3] rfl⟩
      · refine lv_iinc (v := (od + 1)) (lv' := [(2, .int (od + 1)), (3, .int kk), (0, .ref q0), (1, .int nv)]) hx hb dX4_oddsOff_19 hl (k := 1) rfl rfl (by decide) rfl (fun ls hl => ?_)
        refine lv_iinc (v := (kk + 1)) (lv' := [(3, .int (kk + 1)), (2, .int (od + 1)), (0, .ref q0), (1, .int nv)]) hx hb dX4_oddsOff_22 hl (k := 1) rfl rfl (by decide) rfl (fun ls hl => ?_)
        refine lv_goto (tgt := 4) hx hb dX4_oddsOff_25 (by decide) ?_
        exact ih (kk + 1, (od + 1), ls) ⟨by rw [ek]; exact nI_1 ii, by rw [zN, if_pos (ek ▸ c_7), ← eo], lv_sub hl [0, 1, 2, 3] rfl⟩
set_option maxRecDepth 20000 in
theorem ggX4_oddsOff_X8_slip : GoodIn wsX4_oddsOff wsX8_slip := goodIn_r _ [28, 29, 30, 31, 32, 33, 34, 35, 2, 36, 10, 11, 12] (by decide +kernel) (by decide +kernel)
set_option maxRecDepth 20000 in
theorem gX4_oddsOff_X8_slip_u9X8 : GoodIn wsX4_oddsOff (va_wsO RX4 9 RX8 "ThriceCounted$Ones" ⟨"ThriceCounted$Ones", "slip", "(I)I"⟩ yX8_slip wsX8_slip) := goodIn_app (goodIn_of _ (by decide +kernel)) ggX4_oddsOff_X8_slip
set_option maxHeartbeats 4000000 in
set_option maxRecDepth 100000 in
theorem k_odds_X8 (l : Launch) (dC : Nat → ClassId) (dI : Nat → Nat → Nat) (q0 : Nat) (nv : Int32) : Met l yX4_oddsOff wsX4_oddsOff ({ frames := 3, cells := 0, slots := 0, locals := 63 }) (va_Pc [.ref q0, .int nv] (fun U => va_P (dC, dI) vwCl [(q0, .inr (8, []))] U.heap ∧ va_K (dC, dI) vwCl [] U)) (vp_Si (fun r => r = (zN zK nv 20))) 0 0 (fun _ => False) := by
  refine Met.ofW (cc := cX4_oddsOff) (maxL := 4) (ret := (some .int)) (by decide) rfl ?_
  intro p e s m args below meth c s₁ B hml hv
  obtain ⟨rfl, hP, hK⟩ := hv
  have hx := B.exec
  have hb := B.bytes
  have hr := B.returns
  have hts := atoms_spec (ws := wsX4_oddsOff) B.pre
  have hown : s.vm.findClass RX4 = some m.cls := findClass_of_methodNamed B.named
  have hlocks := B.notSynchronized
  have hl := lv_entry ([.ref q0, .int nv]) (n := 4) (Nat.le_of_ble_eq_true rfl)
  rw [lg_entry_eq]
  generalize (lg_sl ([.ref q0, .int nv]) ++ List.replicate (4 - (lg_sl ([.ref q0, .int nv])).length) Slot.unset).toArray = ls at hl ⊢
  have hl : lv_has ls 4 [(0, .ref q0), (1, .int nv)] := hl
  refine lv_iconst (v := 0) hx hb dX4_oddsOff_0 (by decide) ?_
  refine lv_istore_n (lv' := [(2, .int 0), (0, .ref q0), (1, .int nv)]) hx hb dX4_oddsOff_1 rfl hl (by decide) rfl (fun ls hl => ?_)
  refine lv_iconst (v := 0) hx hb dX4_oddsOff_2 (by decide) ?_
  refine lv_istore_n (lv' := [(3, .int 0), (2, .int 0), (0, .ref q0), (1, .int nv)]) hx hb dX4_oddsOff_3 rfl hl (by decide) rfl (fun ls hl => ?_)
  refine tz_for (σ := Int32 × Int32 × Array Slot) (fun x => W p l e _ s m _ below meth c _ _ _ _ _ (F0 m 4 x.2.2 [])) (fun i x => x.1 = nI i ∧ x.2.1 = zN zK nv i ∧ lv_has x.2.2 4 [(3, .int x.1), (2, .int x.2.1), (0, .ref q0), (1, .int nv)]) 20 ?_ ?_ (0, 0, ls) ⟨rfl, rfl, lv_sub hl [0, 1, 2, 3] rfl⟩
  · rintro ⟨kk, od, ls⟩ ⟨ek, eo, hl⟩
    dsimp only at ek eo hl ⊢
    obtain rfl : 20 = kk := ek.symm
    obtain rfl : zN zK nv 20 = od := eo.symm
    refine lv_iload_n hx hb dX4_oddsOff_4 rfl (lv_at hl 0 rfl) ?_
    refine lv_bipush (v := 20) hx hb dX4_oddsOff_5 (by decide) ?_
    refine lv_icmp_ge (tgt := 28) hx hb dX4_oddsOff_7 (by decide) (fun c_1 => ?_) (fun c_1 => ?_)
    · refine lv_iload_n hx hb dX4_oddsOff_28 rfl (lv_at hl 1 rfl) ?_
      exact W.iret (v := (zN zK nv 20)) hx hb hr (fun t ht hW => ⟨(zN zK nv 20), rfl, rfl, ht⟩) (fun _ h => absurd h List.not_mem_nil) dX4_oddsOff_29
    · exact absurd c_1 (by decide)
  · rintro ii ⟨kk, od, ls⟩ hi ⟨ek, eo, hl⟩ ih
    dsimp only at ek eo hl ⊢
    refine lv_iload_n hx hb dX4_oddsOff_4 rfl (lv_at hl 0 rfl) ?_
    refine lv_bipush (v := 20) hx hb dX4_oddsOff_5 (by decide) ?_
    refine lv_icmp_ge (tgt := 28) hx hb dX4_oddsOff_7 (by decide) (fun c_2 => ?_) (fun c_2 => ?_)
    · exact absurd c_2 (by rw [ek]; exact nI_ge (b := 20) hi (by decide))
    · refine lv_aload_n hx hb dX4_oddsOff_10 rfl (lv_at hl 2 rfl) ?_
      refine lv_iload_n hx hb dX4_oddsOff_11 rfl (lv_at hl 0 rfl) ?_
      have hPc_3 := hP.sub (ws' := [(q0, .inr (8, []))]) [0] rfl
      have hKc_4 := hK.sub (tys' := []) [] rfl
      refine vp_callSi (va_Run.run (va_runU (C := RX8) (As := [.int kk]) (rest := []) ⟨hx, hb, hml, hown, hts⟩ (k_slip_X8 l dC dI q0 kk) (va_cwO 1 hts gX4_oddsOff_X8_slip_u9X8 rfl rfl rfl (b0 := cX4_slip) (m0 := 2) (r0 := (some .int)) (by decide +kernel) (by decide +kernel) ⟨Nat.le_of_ble_eq_true rfl, Nat.le_of_ble_eq_true rfl⟩) ⟨fun a U g mk q => by obtain ⟨q0, qP, qK⟩ := q; exact ⟨q0, qP, va_K.moved (u := U) (U := U.calling g mk a) (Vm.Alike.refl U.vm) qK⟩, va_recv hK hP (ci := 8) (q0 := 0) rfl rfl, fun U hU hW => ⟨rfl, by rw [hU]; exact hPc_3, va_K.moved hW.alike hKc_4⟩⟩ rfl rfl hl.1 rfl (lv_room (Nat.le_of_ble_eq_true rfl)) dX4_oddsOff_12 ⟨Nat.le_of_ble_eq_true rfl, Nat.le_of_ble_eq_true rfl⟩)) (fun r_5 hw_6 => ?_)
      obtain rfl : (zK kk) = r_5 := hw_6.symm
      refine lv_iload_n hx hb dX4_oddsOff_15 rfl (lv_at hl 3 rfl) ?_
      refine lv_icmp_ne (tgt := 22) hx hb dX4_oddsOff_16 (by decide) (fun c_7 => ?_) (fun c_7 => ?_)
      · refine lv_iinc (v := (kk + 1)) (lv' := [(3, .int (kk + 1)), (2, .int od), (0, .ref q0), (1, .int nv)]) hx hb dX4_oddsOff_22 hl (k := 0) rfl rfl (by decide) rfl (fun ls hl => ?_)
        refine lv_goto (tgt := 4) hx hb dX4_oddsOff_25 (by decide) ?_
        exact ih (kk + 1, od, ls) ⟨by rw [ek]; exact nI_1 ii, by rw [zN, if_neg (ek ▸ c_7), ← eo], lv_sub hl [0, 1, 2, 3] rfl⟩
      · refine lv_iinc (v := (od + 1)) (lv' := [(2, .int (od + 1)), (3, .int kk), (0, .ref q0), (1, .int nv)]) hx hb dX4_oddsOff_19 hl (k := 1) rfl rfl (by decide) rfl (fun ls hl => ?_)
        refine lv_iinc (v := (kk + 1)) (lv' := [(3, .int (kk + 1)), (2, .int (od + 1)), (0, .ref q0), (1, .int nv)]) hx hb dX4_oddsOff_22 hl (k := 1) rfl rfl (by decide) rfl (fun ls hl => ?_)
        refine lv_goto (tgt := 4) hx hb dX4_oddsOff_25 (by decide) ?_
        exact ih (kk + 1, (od + 1), ls) ⟨by rw [ek]; exact nI_1 ii, by rw [zN, if_pos (ek ▸ c_7), ← eo], lv_sub hl [0, 1, 2, 3] rfl⟩
