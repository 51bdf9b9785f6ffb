theorem dX12_offByOnes_0 : decode cX12_offByOnes 0 = .ok (.iload_n 0, 1) := by decide +kernel
theorem dX12_offByOnes_1 : decode cX12_offByOnes 1 = .ok (.iconst 2, 1) := by decide +kernel
theorem dX12_offByOnes_2 : decode cX12_offByOnes 2 = .ok (.if_icmp .ge 7, 3) := by decide +kernel
theorem dX12_offByOnes_9 : decode cX12_offByOnes 9 = .ok (.iload_n 0, 1) := by decide +kernel
theorem dX12_offByOnes_10 : decode cX12_offByOnes 10 = .ok (.iconst 2, 1) := by decide +kernel
theorem dX12_offByOnes_11 : decode cX12_offByOnes 11 = .ok (.if_icmp .ne 7, 3) := by decide +kernel
theorem dX12_offByOnes_18 : decode cX12_offByOnes 18 = .ok (.iconst 0, 1) := by decide +kernel
theorem dX12_offByOnes_19 : decode cX12_offByOnes 19 = .ok (.ireturn, 1) := by decide +kernel
theorem dX12_offByOnes_14 : decode cX12_offByOnes 14 = .ok (.iconst 1, 1) := by decide +kernel
theorem dX12_offByOnes_15 : decode cX12_offByOnes 15 = .ok (.goto 4, 3) := by decide +kernel
theorem dX12_offByOnes_5 : decode cX12_offByOnes 5 = .ok (.iconst (-1), 1) := by decide +kernel
theorem dX12_offByOnes_6 : decode cX12_offByOnes 6 = .ok (.goto 13, 3) := by decide +kernel
set_option maxHeartbeats 4000000 in
set_option maxRecDepth 100000 in
theorem m_offByOnes (l : Launch) (dC : Nat → ClassId) (dI : Nat → Nat → Nat) (nk : Int32) : Met l yX12_offByOnes wsX12_offByOnes ({ frames := 0, cells := 0, slots := 0, locals := 0 }) (va_Pc [.int nk] (fun _ => True)) (vp_Si (fun r => r = (yO nk))) 0 0 (fun _ => False) := by
  refine Met.ofW (cc := cX12_offByOnes) (maxL := 1) (ret := (some .int)) (by decide) rfl ?_
  intro p e s m args below meth c s₁ B hml hv
  obtain ⟨rfl, -⟩ := hv
  have hx := B.exec
  have hb := B.bytes
  have hr := B.returns
  have hts := atoms_spec (ws := wsX12_offByOnes) B.pre
  have hown : s.vm.findClass RX12 = some m.cls := findClass_of_methodNamed B.named
  have hlocks := B.notSynchronized
  have hl := lv_entry ([.int nk]) (n := 1) (Nat.le_of_ble_eq_true rfl)
  rw [lg_entry_eq]
  generalize (lg_sl ([.int nk]) ++ List.replicate (1 - (lg_sl ([.int nk])).length) Slot.unset).toArray = ls at hl ⊢
  have hl : lv_has ls 1 [(0, .int nk)] := hl
  refine lv_iload_n hx hb dX12_offByOnes_0 rfl (lv_at hl 0 rfl) ?_
  refine lv_iconst (v := 2) hx hb dX12_offByOnes_1 (by decide) ?_
  refine lv_icmp_ge (tgt := 9) hx hb dX12_offByOnes_2 (by decide) (fun c_1 => ?_) (fun c_1 => ?_)
  · refine lv_iload_n hx hb dX12_offByOnes_9 rfl (lv_at hl 0 rfl) ?_
    refine lv_iconst (v := 2) hx hb dX12_offByOnes_10 (by decide) ?_
    refine lv_icmp_ne (tgt := 18) hx hb dX12_offByOnes_11 (by decide) (fun c_2 => ?_) (fun c_2 => ?_)
    · refine lv_iconst (v := 0) hx hb dX12_offByOnes_18 (by decide) ?_
      exact W.iret (v := 0) hx hb hr (fun t ht hW => ⟨0, rfl, (show 0 = yO nk from by unfold yO; exact ((if_pos c_1).trans (if_neg c_2)).symm), ht⟩) (fun _ h => absurd h List.not_mem_nil) dX12_offByOnes_19
    · refine lv_iconst (v := 1) hx hb dX12_offByOnes_14 (by decide) ?_
      refine lv_goto (tgt := 19) hx hb dX12_offByOnes_15 (by decide) ?_
      exact W.iret (v := 1) hx hb hr (fun t ht hW => ⟨1, rfl, (show 1 = yO nk from by unfold yO; exact ((if_pos c_1).trans (if_pos c_2)).symm), ht⟩) (fun _ h => absurd h List.not_mem_nil) dX12_offByOnes_19
  · refine lv_iconst (v := (-1)) hx hb dX12_offByOnes_5 (by decide) ?_
    refine lv_goto (tgt := 19) hx hb dX12_offByOnes_6 (by decide) ?_
    exact W.iret (v := (-1)) hx hb hr (fun t ht hW => ⟨(-1), rfl, (show (-1) = yO nk from by unfold yO; exact (if_neg c_1).symm), ht⟩) (fun _ h => absurd h List.not_mem_nil) dX12_offByOnes_19
theorem dX12_offByWeight_0 : decode cX12_offByWeight 0 = .ok (.iload_n 0, 1) := by decide +kernel
theorem dX12_offByWeight_1 : decode cX12_offByWeight 1 = .ok (.iconst 3, 1) := by decide +kernel
theorem dX12_offByWeight_2 : decode cX12_offByWeight 2 = .ok (.if_icmp .ge 7, 3) := by decide +kernel
theorem dX12_offByWeight_9 : decode cX12_offByWeight 9 = .ok (.iload_n 0, 1) := by decide +kernel
theorem dX12_offByWeight_10 : decode cX12_offByWeight 10 = .ok (.bipush 6, 2) := by decide +kernel
theorem dX12_offByWeight_12 : decode cX12_offByWeight 12 = .ok (.if_icmp .ge 8, 3) := by decide +kernel
theorem dX12_offByWeight_20 : decode cX12_offByWeight 20 = .ok (.iload_n 0, 1) := by decide +kernel
theorem dX12_offByWeight_21 : decode cX12_offByWeight 21 = .ok (.bipush 9, 2) := by decide +kernel
theorem dX12_offByWeight_23 : decode cX12_offByWeight 23 = .ok (.if_icmp .ge 7, 3) := by decide +kernel
theorem dX12_offByWeight_30 : decode cX12_offByWeight 30 = .ok (.iload_n 0, 1) := by decide +kernel
theorem dX12_offByWeight_31 : decode cX12_offByWeight 31 = .ok (.bipush 12, 2) := by decide +kernel
theorem dX12_offByWeight_33 : decode cX12_offByWeight 33 = .ok (.if_icmp .ge 7, 3) := by decide +kernel
theorem dX12_offByWeight_40 : decode cX12_offByWeight 40 = .ok (.iconst 0, 1) := by decide +kernel
theorem dX12_offByWeight_41 : decode cX12_offByWeight 41 = .ok (.ireturn, 1) := by decide +kernel
theorem dX12_offByWeight_36 : decode cX12_offByWeight 36 = .ok (.iconst 2, 1) := by decide +kernel
theorem dX12_offByWeight_37 : decode cX12_offByWeight 37 = .ok (.goto 4, 3) := by decide +kernel
theorem dX12_offByWeight_26 : decode cX12_offByWeight 26 = .ok (.iconst 1, 1) := by decide +kernel
theorem dX12_offByWeight_27 : decode cX12_offByWeight 27 = .ok (.goto 14, 3) := by decide +kernel
theorem dX12_offByWeight_15 : decode cX12_offByWeight 15 = .ok (.bipush (-2), 2) := by decide +kernel
theorem dX12_offByWeight_17 : decode cX12_offByWeight 17 = .ok (.goto 24, 3) := by decide +kernel
theorem dX12_offByWeight_5 : decode cX12_offByWeight 5 = .ok (.iconst (-1), 1) := by decide +kernel
theorem dX12_offByWeight_6 : decode cX12_offByWeight 6 = .ok (.goto 35, 3) := by decide +kernel
set_option maxHeartbeats 4000000 in
set_option maxRecDepth 100000 in
theorem m_offByWeight (l : Launch) (dC : Nat → ClassId) (dI : Nat → Nat → Nat) (nk : Int32) : Met l yX12_offByWeight wsX12_offByWeight ({ frames := 0, cells := 0, slots := 0, locals := 0 }) (va_Pc [.int nk] (fun _ => True)) (vp_Si (fun r => r = (zW nk))) 0 0 (fun _ => False) := by
  refine Met.ofW (cc := cX12_offByWeight) (maxL := 1) (ret := (some .int)) (by decide) rfl ?_
  intro p e s m args below meth c s₁ B hml hv
  obtain ⟨rfl, -⟩ := hv
  have hx := B.exec
  have hb := B.bytes
  have hr := B.returns
  have hts := atoms_spec (ws := wsX12_offByWeight) B.pre
  have hown : s.vm.findClass RX12 = some m.cls := findClass_of_methodNamed B.named
  have hlocks := B.notSynchronized
  have hl := lv_entry ([.int nk]) (n := 1) (Nat.le_of_ble_eq_true rfl)
  rw [lg_entry_eq]
  generalize (lg_sl ([.int nk]) ++ List.replicate (1 - (lg_sl ([.int nk])).length) Slot.unset).toArray = ls at hl ⊢
  have hl : lv_has ls 1 [(0, .int nk)] := hl
  refine lv_iload_n hx hb dX12_offByWeight_0 rfl (lv_at hl 0 rfl) ?_
  refine lv_iconst (v := 3) hx hb dX12_offByWeight_1 (by decide) ?_
  refine lv_icmp_ge (tgt := 9) hx hb dX12_offByWeight_2 (by decide) (fun c_1 => ?_) (fun c_1 => ?_)
  · refine lv_iload_n hx hb dX12_offByWeight_9 rfl (lv_at hl 0 rfl) ?_
    refine lv_bipush (v := 6) hx hb dX12_offByWeight_10 (by decide) ?_
    refine lv_icmp_ge (tgt := 20) hx hb dX12_offByWeight_12 (by decide) (fun c_2 => ?_) (fun c_2 => ?_)
    · refine lv_iload_n hx hb dX12_offByWeight_20 rfl (lv_at hl 0 rfl) ?_
      refine lv_bipush (v := 9) hx hb dX12_offByWeight_21 (by decide) ?_
      refine lv_icmp_ge (tgt := 30) hx hb dX12_offByWeight_23 (by decide) (fun c_3 => ?_) (fun c_3 => ?_)
      · refine lv_iload_n hx hb dX12_offByWeight_30 rfl (lv_at hl 0 rfl) ?_
        refine lv_bipush (v := 12) hx hb dX12_offByWeight_31 (by decide) ?_
        refine lv_icmp_ge (tgt := 40) hx hb dX12_offByWeight_33 (by decide) (fun c_4 => ?_) (fun c_4 => ?_)
        · refine lv_iconst (v := 0) hx hb dX12_offByWeight_40 (by decide) ?_
          exact W.iret (v := 0) hx hb hr (fun t ht hW => ⟨0, rfl, (show 0 = zW nk from by unfold zW; exact ((if_pos c_1).trans ((if_pos c_2).trans ((if_pos c_3).trans (if_pos c_4)))).symm), ht⟩) (fun _ h => absurd h List.not_mem_nil) dX12_offByWeight_41
        · refine lv_iconst (v := 2) hx hb dX12_offByWeight_36 (by decide) ?_
          refine lv_goto (tgt := 41) hx hb dX12_offByWeight_37 (by decide) ?_
          exact W.iret (v := 2) hx hb hr (fun t ht hW => ⟨2, rfl, (show 2 = zW nk from by unfold zW; exact ((if_pos c_1).trans ((if_pos c_2).trans ((if_pos c_3).trans (if_neg c_4)))).symm), ht⟩) (fun _ h => absurd h List.not_mem_nil) dX12_offByWeight_41
      · refine lv_iconst (v := 1) hx hb dX12_offByWeight_26 (by decide) ?_
        refine lv_goto (tgt := 41) hx hb dX12_offByWeight_27 (by decide) ?_
        exact W.iret (v := 1) hx hb hr (fun t ht hW => ⟨1, rfl, (show 1 = zW nk from by unfold zW; exact ((if_pos c_1).trans ((if_pos c_2).trans (if_neg c_3))).symm), ht⟩) (fun _ h => absurd h List.not_mem_nil) dX12_offByWeight_41
    · refine lv_bipush (v := (-2)) hx hb dX12_offByWeight_15 (by decide) ?_
      refine lv_goto (tgt := 41) hx hb dX12_offByWeight_17 (by decide) ?_
      exact W.iret (v := (-2)) hx hb hr (fun t ht hW => ⟨(-2), rfl, (show (-2) = zW nk from by unfold zW; exact ((if_pos c_1).trans (if_neg c_2)).symm), ht⟩) (fun _ h => absurd h List.not_mem_nil) dX12_offByWeight_41
  · refine lv_iconst (v := (-1)) hx hb dX12_offByWeight_5 (by decide) ?_
    refine lv_goto (tgt := 41) hx hb dX12_offByWeight_6 (by decide) ?_
    exact W.iret (v := (-1)) hx hb hr (fun t ht hW => ⟨(-1), rfl, (show (-1) = zW nk from by unfold zW; exact (if_neg c_1).symm), ht⟩) (fun _ h => absurd h List.not_mem_nil) dX12_offByWeight_41
set_option maxRecDepth 20000 in
theorem ggX12_offBy_X12_offByOnes : GoodIn wsX12_offBy wsX12_offByOnes := goodIn_r _ [6] (by decide +kernel) (by decide +kernel)
set_option maxRecDepth 20000 in
theorem gX12_offBy_X12_offByOnes : GoodIn wsX12_offBy (va_wsS RX12 116 yX12_offByOnes wsX12_offByOnes) := goodIn_app (goodIn_of _ (by decide +kernel)) ggX12_offBy_X12_offByOnes
set_option maxRecDepth 20000 in
theorem ggX12_offBy_X12_offByWeight : GoodIn wsX12_offBy wsX12_offByWeight := goodIn_r _ [9] (by decide +kernel) (by decide +kernel)
set_option maxRecDepth 20000 in
theorem gX12_offBy_X12_offByWeight : GoodIn wsX12_offBy (va_wsS RX12 119 yX12_offByWeight wsX12_offByWeight) := goodIn_app (goodIn_of _ (by decide +kernel)) ggX12_offBy_X12_offByWeight
set_option maxRecDepth 20000 in
theorem ggX12_offBy_X12_in : GoodIn wsX12_offBy wsX12_in := goodIn_r _ [12] (by decide +kernel) (by decide +kernel)
set_option maxRecDepth 20000 in
theorem gX12_offBy_X12_in : GoodIn wsX12_offBy (va_wsS RX12 49 yX12_in wsX12_in) := goodIn_app (goodIn_of _ (by decide +kernel)) ggX12_offBy_X12_in
theorem dX12_offBy_0 : decode cX12_offBy 0 = .ok (.iload_n 0, 1) := by decide +kernel
theorem dX12_offBy_1 : decode cX12_offBy 1 = .ok (.tableswitch 126 1 5 #[35, 50, 55, 93, 100], 35) := by decide +kernel
theorem dX12_offBy_127 : decode cX12_offBy 127 = .ok (.iload_n 1, 1) := by decide +kernel
theorem dX12_offBy_128 : decode cX12_offBy 128 = .ok (.invokestatic 116, 3) := by decide +kernel
theorem dX12_offBy_131 : decode cX12_offBy 131 = .ok (.ireturn, 1) := by decide +kernel
theorem dX12_offBy_36 : decode cX12_offBy 36 = .ok (.iload_n 1, 1) := by decide +kernel
theorem dX12_offBy_37 : decode cX12_offBy 37 = .ok (.iconst 3, 1) := by decide +kernel
theorem dX12_offBy_38 : decode cX12_offBy 38 = .ok (.if_icmp .ne 8, 3) := by decide +kernel
theorem dX12_offBy_46 : decode cX12_offBy 46 = .ok (.iload_n 1, 1) := by decide +kernel
theorem dX12_offBy_47 : decode cX12_offBy 47 = .ok (.invokestatic 116, 3) := by decide +kernel
theorem dX12_offBy_50 : decode cX12_offBy 50 = .ok (.ireturn, 1) := by decide +kernel
theorem dX12_offBy_41 : decode cX12_offBy 41 = .ok (.bipush (-5), 2) := by decide +kernel
theorem dX12_offBy_43 : decode cX12_offBy 43 = .ok (.goto 7, 3) := by decide +kernel
theorem dX12_offBy_51 : decode cX12_offBy 51 = .ok (.iload_n 1, 1) := by decide +kernel
theorem dX12_offBy_52 : decode cX12_offBy 52 = .ok (.invokestatic 119, 3) := by decide +kernel
theorem dX12_offBy_55 : decode cX12_offBy 55 = .ok (.ireturn, 1) := by decide +kernel
theorem dX12_offBy_56 : decode cX12_offBy 56 = .ok (.iload_n 1, 1) := by decide +kernel
theorem dX12_offBy_57 : decode cX12_offBy 57 = .ok (.bipush 12, 2) := by decide +kernel
theorem dX12_offBy_59 : decode cX12_offBy 59 = .ok (.if_icmp .eq 9, 3) := by decide +kernel
theorem dX12_offBy_68 : decode cX12_offBy 68 = .ok (.bipush (-3), 2) := by decide +kernel
theorem dX12_offBy_70 : decode cX12_offBy 70 = .ok (.goto 23, 3) := by decide +kernel
theorem dX12_offBy_93 : decode cX12_offBy 93 = .ok (.ireturn, 1) := by decide +kernel
theorem dX12_offBy_62 : decode cX12_offBy 62 = .ok (.iload_n 1, 1) := by decide +kernel
theorem dX12_offBy_63 : decode cX12_offBy 63 = .ok (.bipush 13, 2) := by decide +kernel
theorem dX12_offBy_65 : decode cX12_offBy 65 = .ok (.if_icmp .ne 8, 3) := by decide +kernel
theorem dX12_offBy_73 : decode cX12_offBy 73 = .ok (.iload_n 1, 1) := by decide +kernel
theorem dX12_offBy_74 : decode cX12_offBy 74 = .ok (.bipush 14, 2) := by decide +kernel
theorem dX12_offBy_76 : decode cX12_offBy 76 = .ok (.if_icmp .eq 9, 3) := by decide +kernel
theorem dX12_offBy_85 : decode cX12_offBy 85 = .ok (.iconst 3, 1) := by decide +kernel
theorem dX12_offBy_86 : decode cX12_offBy 86 = .ok (.goto 7, 3) := by decide +kernel
theorem dX12_offBy_79 : decode cX12_offBy 79 = .ok (.iload_n 1, 1) := by decide +kernel
theorem dX12_offBy_80 : decode cX12_offBy 80 = .ok (.bipush 15, 2) := by decide +kernel
theorem dX12_offBy_82 : decode cX12_offBy 82 = .ok (.if_icmp .ne 7, 3) := by decide +kernel
theorem dX12_offBy_89 : decode cX12_offBy 89 = .ok (.iload_n 1, 1) := by decide +kernel
theorem dX12_offBy_90 : decode cX12_offBy 90 = .ok (.invokestatic 119, 3) := by decide +kernel
theorem dX12_offBy_94 : decode cX12_offBy 94 = .ok (.iload_n 1, 1) := by decide +kernel
theorem dX12_offBy_95 : decode cX12_offBy 95 = .ok (.iconst 2, 1) := by decide +kernel
theorem dX12_offBy_96 : decode cX12_offBy 96 = .ok (.idiv, 1) := by decide +kernel
theorem dX12_offBy_97 : decode cX12_offBy 97 = .ok (.invokestatic 116, 3) := by decide +kernel
theorem dX12_offBy_100 : decode cX12_offBy 100 = .ok (.ireturn, 1) := by decide +kernel
theorem dX12_offBy_101 : decode cX12_offBy 101 = .ok (.iload_n 1, 1) := by decide +kernel
theorem dX12_offBy_102 : decode cX12_offBy 102 = .ok (.i2l, 1) := by decide +kernel
theorem dX12_offBy_103 : decode cX12_offBy 103 = .ok (.ldc2_w 122, 3) := by decide +kernel
theorem dX12_offBy_106 : decode cX12_offBy 106 = .ok (.ldc2_w 124, 3) := by decide +kernel
theorem dX12_offBy_109 : decode cX12_offBy 109 = .ok (.invokestatic 49, 3) := by decide +kernel
theorem dX12_offBy_112 : decode cX12_offBy 112 = .ok (.ifCond .eq 8, 3) := by decide +kernel
theorem dX12_offBy_115 : decode cX12_offBy 115 = .ok (.bipush (-2), 2) := by decide +kernel
theorem dX12_offBy_117 : decode cX12_offBy 117 = .ok (.goto 9, 3) := by decide +kernel
theorem dX12_offBy_126 : decode cX12_offBy 126 = .ok (.ireturn, 1) := by decide +kernel
theorem dX12_offBy_120 : decode cX12_offBy 120 = .ok (.iload_n 1, 1) := by decide +kernel
theorem dX12_offBy_121 : decode cX12_offBy 121 = .ok (.iconst 2, 1) := by decide +kernel
theorem dX12_offBy_122 : decode cX12_offBy 122 = .ok (.idiv, 1) := by decide +kernel
theorem dX12_offBy_123 : decode cX12_offBy 123 = .ok (.invokestatic 116, 3) := by decide +kernel
set_option maxHeartbeats 4000000 in
set_option maxRecDepth 100000 in
theorem m_offBy (l : Launch) (dC : Nat → ClassId) (dI : Nat → Nat → Nat) (na : Int32) (nk : Int32) (hna : 0 ≤ na ∧ na ≤ 5) : Met l yX12_offBy wsX12_offBy ({ frames := 1, cells := 0, slots := 0, locals := 25 }) (va_Pc [.int na, .int nk] (fun _ => True)) (vp_Si (fun r => r = (yS na nk))) 0 0 (fun _ => False) := by
  refine Met.ofW (cc := cX12_offBy) (maxL := 2) (ret := (some .int)) (by decide) rfl ?_
  intro p e s m args below meth c s₁ B hml hv
  obtain ⟨rfl, -⟩ := hv
  have hx := B.exec
  have hb := B.bytes
  have hr := B.returns
  have hts := atoms_spec (ws := wsX12_offBy) B.pre
  have hown : s.vm.findClass RX12 = some m.cls := findClass_of_methodNamed B.named
  have hlocks := B.notSynchronized
  have hl := lv_entry ([.int na, .int nk]) (n := 2) (Nat.le_of_ble_eq_true rfl)
  rw [lg_entry_eq]
  generalize (lg_sl ([.int na, .int nk]) ++ List.replicate (2 - (lg_sl ([.int na, .int nk])).length) Slot.unset).toArray = ls at hl ⊢
  have hl : lv_has ls 2 [(0, .int na), (1, .int nk)] := hl
  refine lv_iload_n hx hb dX12_offBy_0 rfl (lv_at hl 0 rfl) ?_
  rcases (tz_six hna) with rfl | rfl | rfl | rfl | rfl | rfl
  · refine lv_tableOut (tgt := 127) hx hb dX12_offBy_1 (by decide) (by decide) ?_
    refine lv_iload_n hx hb dX12_offBy_127 rfl (lv_at hl 1 rfl) ?_
    refine vp_callSi (va_Run.run (va_runS (As := [.int nk]) (rest := []) ⟨hx, hb, hml, hown, hts⟩ (m_offByOnes l dC dI nk) (va_cwS 1 hts gX12_offBy_X12_offByOnes rfl rfl rfl (by decide +kernel) ⟨Nat.le_of_ble_eq_true rfl, Nat.le_of_ble_eq_true rfl⟩) ⟨fun a U g mk q => ⟨q.1, trivial⟩, fun U hU hW => ⟨rfl, trivial⟩⟩ rfl rfl hl.1 rfl (lv_room (Nat.le_of_ble_eq_true rfl)) dX12_offBy_128 ⟨Nat.le_of_ble_eq_true rfl, Nat.le_of_ble_eq_true rfl⟩)) (fun r_1 hw_2 => ?_)
    obtain rfl : (yO nk) = r_1 := hw_2.symm
    exact W.iret (v := (yO nk)) hx hb hr (fun t ht hW => ⟨(yO nk), rfl, rfl, ht⟩) (fun _ h => absurd h List.not_mem_nil) dX12_offBy_131
  · refine lv_tableIn (off := 35) (tgt := 36) hx hb dX12_offBy_1 (by decide) (by decide) (by decide) (by decide) ?_
    refine lv_iload_n hx hb dX12_offBy_36 rfl (lv_at hl 1 rfl) ?_
    refine lv_iconst (v := 3) hx hb dX12_offBy_37 (by decide) ?_
    refine lv_icmp_ne (tgt := 46) hx hb dX12_offBy_38 (by decide) (fun c_3 => ?_) (fun c_3 => ?_)
    · refine lv_iload_n hx hb dX12_offBy_46 rfl (lv_at hl 1 rfl) ?_
      refine vp_callSi (va_Run.run (va_runS (As := [.int nk]) (rest := []) ⟨hx, hb, hml, hown, hts⟩ (m_offByOnes l dC dI nk) (va_cwS 1 hts gX12_offBy_X12_offByOnes rfl rfl rfl (by decide +kernel) ⟨Nat.le_of_ble_eq_true rfl, Nat.le_of_ble_eq_true rfl⟩) ⟨fun a U g mk q => ⟨q.1, trivial⟩, fun U hU hW => ⟨rfl, trivial⟩⟩ rfl rfl hl.1 rfl (lv_room (Nat.le_of_ble_eq_true rfl)) dX12_offBy_47 ⟨Nat.le_of_ble_eq_true rfl, Nat.le_of_ble_eq_true rfl⟩)) (fun r_4 hw_5 => ?_)
      obtain rfl : (yO nk) = r_4 := hw_5.symm
      exact W.iret (v := (yO nk)) hx hb hr (fun t ht hW => ⟨(yO nk), rfl, (show (yO nk) = yF nk from by unfold yF; exact (if_neg c_3).symm), ht⟩) (fun _ h => absurd h List.not_mem_nil) dX12_offBy_50
    · refine lv_bipush (v := (-5)) hx hb dX12_offBy_41 (by decide) ?_
      refine lv_goto (tgt := 50) hx hb dX12_offBy_43 (by decide) ?_
      exact W.iret (v := (-5)) hx hb hr (fun t ht hW => ⟨(-5), rfl, (show (-5) = yF nk from by unfold yF; exact (if_pos c_3).symm), ht⟩) (fun _ h => absurd h List.not_mem_nil) dX12_offBy_50
  · refine lv_tableIn (off := 50) (tgt := 51) hx hb dX12_offBy_1 (by decide) (by decide) (by decide) (by decide) ?_
    refine lv_iload_n hx hb dX12_offBy_51 rfl (lv_at hl 1 rfl) ?_
    refine vp_callSi (va_Run.run (va_runS (As := [.int nk]) (rest := []) ⟨hx, hb, hml, hown, hts⟩ (m_offByWeight l dC dI nk) (va_cwS 1 hts gX12_offBy_X12_offByWeight rfl rfl rfl (by decide +kernel) ⟨Nat.le_of_ble_eq_true rfl, Nat.le_of_ble_eq_true rfl⟩) ⟨fun a U g mk q => ⟨q.1, trivial⟩, fun U hU hW => ⟨rfl, trivial⟩⟩ rfl rfl hl.1 rfl (lv_room (Nat.le_of_ble_eq_true rfl)) dX12_offBy_52 ⟨Nat.le_of_ble_eq_true rfl, Nat.le_of_ble_eq_true rfl⟩)) (fun r_6 hw_7 => ?_)
    obtain rfl : (zW nk) = r_6 := hw_7.symm
    exact W.iret (v := (zW nk)) hx hb hr (fun t ht hW => ⟨(zW nk), rfl, rfl, ht⟩) (fun _ h => absurd h List.not_mem_nil) dX12_offBy_55
  · refine lv_tableIn (off := 55) (tgt := 56) hx hb dX12_offBy_1 (by decide) (by decide) (by decide) (by decide) ?_
    refine lv_iload_n hx hb dX12_offBy_56 rfl (lv_at hl 1 rfl) ?_
    refine lv_bipush (v := 12) hx hb dX12_offBy_57 (by decide) ?_
    refine lv_icmp_eq (tgt := 68) hx hb dX12_offBy_59 (by decide) (fun c_8 => ?_) (fun c_8 => ?_)
    · refine lv_bipush (v := (-3)) hx hb dX12_offBy_68 (by decide) ?_
      refine lv_goto (tgt := 93) hx hb dX12_offBy_70 (by decide) ?_
      exact W.iret (v := (-3)) hx hb hr (fun t ht hW => ⟨(-3), rfl, (show (-3) = zH nk from by unfold zH; exact (if_pos c_8).symm), ht⟩) (fun _ h => absurd h List.not_mem_nil) dX12_offBy_93
    · refine lv_iload_n hx hb dX12_offBy_62 rfl (lv_at hl 1 rfl) ?_
      refine lv_bipush (v := 13) hx hb dX12_offBy_63 (by decide) ?_
      refine lv_icmp_ne (tgt := 73) hx hb dX12_offBy_65 (by decide) (fun c_9 => ?_) (fun c_9 => ?_)
      · refine lv_iload_n hx hb dX12_offBy_73 rfl (lv_at hl 1 rfl) ?_
        refine lv_bipush (v := 14) hx hb dX12_offBy_74 (by decide) ?_
        refine lv_icmp_eq (tgt := 85) hx hb dX12_offBy_76 (by decide) (fun c_10 => ?_) (fun c_10 => ?_)
        · refine lv_iconst (v := 3) hx hb dX12_offBy_85 (by decide) ?_
          refine lv_goto (tgt := 93) hx hb dX12_offBy_86 (by decide) ?_
          exact W.iret (v := 3) hx hb hr (fun t ht hW => ⟨3, rfl, (show 3 = zH nk from by unfold zH; exact ((if_neg c_8).trans ((if_neg c_9).trans (if_pos c_10))).symm), ht⟩) (fun _ h => absurd h List.not_mem_nil) dX12_offBy_93
        · refine lv_iload_n hx hb dX12_offBy_79 rfl (lv_at hl 1 rfl) ?_
          refine lv_bipush (v := 15) hx hb dX12_offBy_80 (by decide) ?_
          refine lv_icmp_ne (tgt := 89) hx hb dX12_offBy_82 (by decide) (fun c_11 => ?_) (fun c_11 => ?_)
          · refine lv_iload_n hx hb dX12_offBy_89 rfl (lv_at hl 1 rfl) ?_
            refine vp_callSi (va_Run.run (va_runS (As := [.int nk]) (rest := []) ⟨hx, hb, hml, hown, hts⟩ (m_offByWeight l dC dI nk) (va_cwS 1 hts gX12_offBy_X12_offByWeight rfl rfl rfl (by decide +kernel) ⟨Nat.le_of_ble_eq_true rfl, Nat.le_of_ble_eq_true rfl⟩) ⟨fun a U g mk q => ⟨q.1, trivial⟩, fun U hU hW => ⟨rfl, trivial⟩⟩ rfl rfl hl.1 rfl (lv_room (Nat.le_of_ble_eq_true rfl)) dX12_offBy_90 ⟨Nat.le_of_ble_eq_true rfl, Nat.le_of_ble_eq_true rfl⟩)) (fun r_12 hw_13 => ?_)
            obtain rfl : (zW nk) = r_12 := hw_13.symm
            exact W.iret (v := (zW nk)) hx hb hr (fun t ht hW => ⟨(zW nk), rfl, (show (zW nk) = zH nk from by unfold zH; exact ((if_neg c_8).trans ((if_neg c_9).trans ((if_neg c_10).trans (if_neg c_11)))).symm), ht⟩) (fun _ h => absurd h List.not_mem_nil) dX12_offBy_93
          · refine lv_iconst (v := 3) hx hb dX12_offBy_85 (by decide) ?_
            refine lv_goto (tgt := 93) hx hb dX12_offBy_86 (by decide) ?_
            exact W.iret (v := 3) hx hb hr (fun t ht hW => ⟨3, rfl, (show 3 = zH nk from by unfold zH; exact ((if_neg c_8).trans ((if_neg c_9).trans ((if_neg c_10).trans (if_pos c_11)))).symm), ht⟩) (fun _ h => absurd h List.not_mem_nil) dX12_offBy_93
      · refine lv_bipush (v := (-3)) hx hb dX12_offBy_68 (by decide) ?_
        refine lv_goto (tgt := 93) hx hb dX12_offBy_70 (by decide) ?_
        exact W.iret (v := (-3)) hx hb hr (fun t ht hW => ⟨(-3), rfl, (show (-3) = zH nk from by unfold zH; exact ((if_neg c_8).trans (if_pos c_9)).symm), ht⟩) (fun _ h => absurd h List.not_mem_nil) dX12_offBy_93
  · refine lv_tableIn (off := 93) (tgt := 94) hx hb dX12_offBy_1 (by decide) (by decide) (by decide) (by decide) ?_
    refine lv_iload_n hx hb dX12_offBy_94 rfl (lv_at hl 1 rfl) ?_
    refine lv_iconst (v := 2) hx hb dX12_offBy_95 (by decide) ?_
    refine lv_idiv hx hb dX12_offBy_96 (by decide) ?_
    refine vp_callSi (va_Run.run (va_runS (As := [.int (nk / 2)]) (rest := []) ⟨hx, hb, hml, hown, hts⟩ (m_offByOnes l dC dI (nk / 2)) (va_cwS 1 hts gX12_offBy_X12_offByOnes rfl rfl rfl (by decide +kernel) ⟨Nat.le_of_ble_eq_true rfl, Nat.le_of_ble_eq_true rfl⟩) ⟨fun a U g mk q => ⟨q.1, trivial⟩, fun U hU hW => ⟨rfl, trivial⟩⟩ rfl rfl hl.1 rfl (lv_room (Nat.le_of_ble_eq_true rfl)) dX12_offBy_97 ⟨Nat.le_of_ble_eq_true rfl, Nat.le_of_ble_eq_true rfl⟩)) (fun r_14 hw_15 => ?_)
    obtain rfl : (yO (nk / 2)) = r_14 := hw_15.symm
    exact W.iret (v := (yO (nk / 2))) hx hb hr (fun t ht hW => ⟨(yO (nk / 2)), rfl, rfl, ht⟩) (fun _ h => absurd h List.not_mem_nil) dX12_offBy_100
  · refine lv_tableIn (off := 100) (tgt := 101) hx hb dX12_offBy_1 (by decide) (by decide) (by decide) (by decide) ?_
    refine lv_iload_n hx hb dX12_offBy_101 rfl (lv_at hl 1 rfl) ?_
    refine lv_i2l (v := nk.toInt64) hx hb dX12_offBy_102 rfl ?_
    refine lv_ldc2 hx hb hown (hts (.constantLong RX12 122 (6)) (by decide +kernel)) dX12_offBy_103 ?_
    refine lv_ldc2 hx hb hown (hts (.constantLong RX12 124 (8)) (by decide +kernel)) dX12_offBy_106 ?_
    refine vp_callSi (va_Run.run (va_runS (As := [.long nk.toInt64, .long 6, .long 8]) (rest := []) ⟨hx, hb, hml, hown, hts⟩ (m_in l dC dI nk.toInt64 6 8) (va_cwS 3 hts gX12_offBy_X12_in rfl rfl rfl (by decide +kernel) ⟨Nat.le_of_ble_eq_true rfl, Nat.le_of_ble_eq_true rfl⟩) ⟨fun a U g mk q => ⟨q.1, trivial⟩, fun U hU hW => ⟨rfl, trivial⟩⟩ rfl rfl hl.1 rfl (lv_room (Nat.le_of_ble_eq_true rfl)) dX12_offBy_109 ⟨Nat.le_of_ble_eq_true rfl, Nat.le_of_ble_eq_true rfl⟩)) (fun r_16 hw_17 => ?_)
    by_cases hc_18 : 6 ≤ nk ∧ nk ≤ 8
    · obtain rfl : 1 = r_16 := (hw_17.trans (if_pos ((tz_in64 (by first | rfl | decide) rfl (by first | rfl | decide)).mpr hc_18))).symm
      refine lv_if_eq (tgt := 120) hx hb dX12_offBy_112 (by decide) (fun c_19 => ?_) (fun c_19 => ?_)
      · exact absurd c_19 (by decide)
      · refine lv_bipush (v := (-2)) hx hb dX12_offBy_115 (by decide) ?_
        refine lv_goto (tgt := 126) hx hb dX12_offBy_117 (by decide) ?_
        exact W.iret (v := (-2)) hx hb hr (fun t ht hW => ⟨(-2), rfl, (show (-2) = yK nk from by unfold yK; exact (if_pos hc_18).symm), ht⟩) (fun _ h => absurd h List.not_mem_nil) dX12_offBy_126
    · obtain rfl : 0 = r_16 := (hw_17.trans (if_neg (fun z => hc_18 ((tz_in64 (by first | rfl | decide) rfl (by first | rfl | decide)).mp z)))).symm
      refine lv_if_eq (tgt := 120) hx hb dX12_offBy_112 (by decide) (fun c_20 => ?_) (fun c_20 => ?_)
      · refine lv_iload_n hx hb dX12_offBy_120 rfl (lv_at hl 1 rfl) ?_
        refine lv_iconst (v := 2) hx hb dX12_offBy_121 (by decide) ?_
        refine lv_idiv hx hb dX12_offBy_122 (by decide) ?_
        refine vp_callSi (va_Run.run (va_runS (As := [.int (nk / 2)]) (rest := []) ⟨hx, hb, hml, hown, hts⟩ (m_offByOnes l dC dI (nk / 2)) (va_cwS 1 hts gX12_offBy_X12_offByOnes rfl rfl rfl (by decide +kernel) ⟨Nat.le_of_ble_eq_true rfl, Nat.le_of_ble_eq_true rfl⟩) ⟨fun a U g mk q => ⟨q.1, trivial⟩, fun U hU hW => ⟨rfl, trivial⟩⟩ rfl rfl hl.1 rfl (lv_room (Nat.le_of_ble_eq_true rfl)) dX12_offBy_123 ⟨Nat.le_of_ble_eq_true rfl, Nat.le_of_ble_eq_true rfl⟩)) (fun r_21 hw_22 => ?_)
        obtain rfl : (yO (nk / 2)) = r_21 := hw_22.symm
        exact W.iret (v := (yO (nk / 2))) hx hb hr (fun t ht hW => ⟨(yO (nk / 2)), rfl, (show (yO (nk / 2)) = yK nk from by unfold yK; exact (if_neg hc_18).symm), ht⟩) (fun _ h => absurd h List.not_mem_nil) dX12_offBy_126
      · exact absurd c_20 (by decide)
theorem dX12_minutesOf_0 : decode cX12_minutesOf 0 = .ok (.iload_n 0, 1) := by decide +kernel
theorem dX12_minutesOf_1 : decode cX12_minutesOf 1 = .ok (.ifCond .ne 7, 3) := by decide +kernel
theorem dX12_minutesOf_8 : decode cX12_minutesOf 8 = .ok (.iload_n 0, 1) := by decide +kernel
theorem dX12_minutesOf_9 : decode cX12_minutesOf 9 = .ok (.iconst 1, 1) := by decide +kernel
theorem dX12_minutesOf_10 : decode cX12_minutesOf 10 = .ok (.if_icmp .ne 7, 3) := by decide +kernel
theorem dX12_minutesOf_17 : decode cX12_minutesOf 17 = .ok (.iload_n 0, 1) := by decide +kernel
theorem dX12_minutesOf_18 : decode cX12_minutesOf 18 = .ok (.iconst 2, 1) := by decide +kernel
theorem dX12_minutesOf_19 : decode cX12_minutesOf 19 = .ok (.if_icmp .eq 8, 3) := by decide +kernel
theorem dX12_minutesOf_27 : decode cX12_minutesOf 27 = .ok (.iconst 1, 1) := by decide +kernel
theorem dX12_minutesOf_28 : decode cX12_minutesOf 28 = .ok (.goto 5, 3) := by decide +kernel
theorem dX12_minutesOf_33 : decode cX12_minutesOf 33 = .ok (.ireturn, 1) := by decide +kernel
theorem dX12_minutesOf_22 : decode cX12_minutesOf 22 = .ok (.iload_n 0, 1) := by decide +kernel
theorem dX12_minutesOf_23 : decode cX12_minutesOf 23 = .ok (.iconst 3, 1) := by decide +kernel
theorem dX12_minutesOf_24 : decode cX12_minutesOf 24 = .ok (.if_icmp .ne 7, 3) := by decide +kernel
theorem dX12_minutesOf_31 : decode cX12_minutesOf 31 = .ok (.bipush 7, 2) := by decide +kernel
theorem dX12_minutesOf_13 : decode cX12_minutesOf 13 = .ok (.iconst 3, 1) := by decide +kernel
theorem dX12_minutesOf_14 : decode cX12_minutesOf 14 = .ok (.goto 19, 3) := by decide +kernel
theorem dX12_minutesOf_4 : decode cX12_minutesOf 4 = .ok (.iconst 5, 1) := by decide +kernel
theorem dX12_minutesOf_5 : decode cX12_minutesOf 5 = .ok (.goto 28, 3) := by decide +kernel
set_option maxHeartbeats 4000000 in
set_option maxRecDepth 100000 in
theorem m_minutesOf (l : Launch) (dC : Nat → ClassId) (dI : Nat → Nat → Nat) (nk : Int32) : Met l yX12_minutesOf wsX12_minutesOf ({ frames := 0, cells := 0, slots := 0, locals := 0 }) (va_Pc [.int nk] (fun _ => True)) (vp_Si (fun r => r = (zM nk))) 0 0 (fun _ => False) := by
  refine Met.ofW (cc := cX12_minutesOf) (maxL := 1) (ret := (some .int)) (by decide) rfl ?_
  intro p e s m args below meth c s₁ B hml hv
  obtain ⟨rfl, -⟩ := hv
  have hx := B.exec
  have hb := B.bytes
  have hr := B.returns
  have hts := atoms_spec (ws := wsX12_minutesOf) B.pre
  have hown : s.vm.findClass RX12 = some m.cls := findClass_of_methodNamed B.named
  have hlocks := B.notSynchronized
  have hl := lv_entry ([.int nk]) (n := 1) (Nat.le_of_ble_eq_true rfl)
  rw [lg_entry_eq]
  generalize (lg_sl ([.int nk]) ++ List.replicate (1 - (lg_sl ([.int nk])).length) Slot.unset).toArray = ls at hl ⊢
  have hl : lv_has ls 1 [(0, .int nk)] := hl
  refine lv_iload_n hx hb dX12_minutesOf_0 rfl (lv_at hl 0 rfl) ?_
  refine lv_if_ne (tgt := 8) hx hb dX12_minutesOf_1 (by decide) (fun c_1 => ?_) (fun c_1 => ?_)
  · refine lv_iload_n hx hb dX12_minutesOf_8 rfl (lv_at hl 0 rfl) ?_
    refine lv_iconst (v := 1) hx hb dX12_minutesOf_9 (by decide) ?_
    refine lv_icmp_ne (tgt := 17) hx hb dX12_minutesOf_10 (by decide) (fun c_2 => ?_) (fun c_2 => ?_)
    · refine lv_iload_n hx hb dX12_minutesOf_17 rfl (lv_at hl 0 rfl) ?_
      refine lv_iconst (v := 2) hx hb dX12_minutesOf_18 (by decide) ?_
      refine lv_icmp_eq (tgt := 27) hx hb dX12_minutesOf_19 (by decide) (fun c_3 => ?_) (fun c_3 => ?_)
      · refine lv_iconst (v := 1) hx hb dX12_minutesOf_27 (by decide) ?_
        refine lv_goto (tgt := 33) hx hb dX12_minutesOf_28 (by decide) ?_
        exact W.iret (v := 1) hx hb hr (fun t ht hW => ⟨1, rfl, (show 1 = zM nk from by unfold zM; exact ((if_neg c_1).trans ((if_neg c_2).trans (if_pos c_3))).symm), ht⟩) (fun _ h => absurd h List.not_mem_nil) dX12_minutesOf_33
      · refine lv_iload_n hx hb dX12_minutesOf_22 rfl (lv_at hl 0 rfl) ?_
        refine lv_iconst (v := 3) hx hb dX12_minutesOf_23 (by decide) ?_
        refine lv_icmp_ne (tgt := 31) hx hb dX12_minutesOf_24 (by decide) (fun c_4 => ?_) (fun c_4 => ?_)
        · refine lv_bipush (v := 7) hx hb dX12_minutesOf_31 (by decide) ?_
          exact W.iret (v := 7) hx hb hr (fun t ht hW => ⟨7, rfl, (show 7 = zM nk from by unfold zM; exact ((if_neg c_1).trans ((if_neg c_2).trans ((if_neg c_3).trans (if_neg c_4)))).symm), ht⟩) (fun _ h => absurd h List.not_mem_nil) dX12_minutesOf_33
        · refine lv_iconst (v := 1) hx hb dX12_minutesOf_27 (by decide) ?_
          refine lv_goto (tgt := 33) hx hb dX12_minutesOf_28 (by decide) ?_
          exact W.iret (v := 1) hx hb hr (fun t ht hW => ⟨1, rfl, (show 1 = zM nk from by unfold zM; exact ((if_neg c_1).trans ((if_neg c_2).trans ((if_neg c_3).trans (if_pos c_4)))).symm), ht⟩) (fun _ h => absurd h List.not_mem_nil) dX12_minutesOf_33
    · refine lv_iconst (v := 3) hx hb dX12_minutesOf_13 (by decide) ?_
      refine lv_goto (tgt := 33) hx hb dX12_minutesOf_14 (by decide) ?_
      exact W.iret (v := 3) hx hb hr (fun t ht hW => ⟨3, rfl, (show 3 = zM nk from by unfold zM; exact ((if_neg c_1).trans (if_pos c_2)).symm), ht⟩) (fun _ h => absurd h List.not_mem_nil) dX12_minutesOf_33
  · refine lv_iconst (v := 5) hx hb dX12_minutesOf_4 (by decide) ?_
    refine lv_goto (tgt := 33) hx hb dX12_minutesOf_5 (by decide) ?_
    exact W.iret (v := 5) hx hb hr (fun t ht hW => ⟨5, rfl, (show 5 = zM nk from by unfold zM; exact (if_pos c_1).symm), ht⟩) (fun _ h => absurd h List.not_mem_nil) dX12_minutesOf_33
set_option maxRecDepth 20000 in
theorem ggX12_oddsOf_X12_offBy : GoodIn wsX12_oddsOf wsX12_offBy := goodIn_r _ [4, 5, 6, 7, 8, 3, 9, 10, 11, 12, 13, 14, 15] (by decide +kernel) (by decide +kernel)
set_option maxRecDepth 20000 in
theorem gX12_oddsOf_X12_offBy : GoodIn wsX12_oddsOf (va_wsS RX12 126 yX12_offBy wsX12_offBy) := goodIn_app (goodIn_of _ (by decide +kernel)) ggX12_oddsOf_X12_offBy
theorem dX12_oddsOf_0 : decode cX12_oddsOf 0 = .ok (.iconst 0, 1) := by decide +kernel
theorem dX12_oddsOf_1 : decode cX12_oddsOf 1 = .ok (.istore_n 2, 1) := by decide +kernel
theorem dX12_oddsOf_2 : decode cX12_oddsOf 2 = .ok (.iconst 0, 1) := by decide +kernel
theorem dX12_oddsOf_3 : decode cX12_oddsOf 3 = .ok (.istore_n 3, 1) := by decide +kernel
theorem dX12_oddsOf_4 : decode cX12_oddsOf 4 = .ok (.iload_n 3, 1) := by decide +kernel
theorem dX12_oddsOf_5 : decode cX12_oddsOf 5 = .ok (.bipush 20, 2) := by decide +kernel
theorem dX12_oddsOf_7 : decode cX12_oddsOf 7 = .ok (.if_icmp .ge 26, 3) := by decide +kernel
theorem dX12_oddsOf_33 : decode cX12_oddsOf 33 = .ok (.iload_n 2, 1) := by decide +kernel
theorem dX12_oddsOf_34 : decode cX12_oddsOf 34 = .ok (.ireturn, 1) := by decide +kernel
theorem dX12_oddsOf_10 : decode cX12_oddsOf 10 = .ok (.iload_n 2, 1) := by decide +kernel
theorem dX12_oddsOf_11 : decode cX12_oddsOf 11 = .ok (.iload_n 0, 1) := by decide +kernel
theorem dX12_oddsOf_12 : decode cX12_oddsOf 12 = .ok (.iload_n 3, 1) := by decide +kernel
theorem dX12_oddsOf_13 : decode cX12_oddsOf 13 = .ok (.invokestatic 126, 3) := by decide +kernel
theorem dX12_oddsOf_16 : decode cX12_oddsOf 16 = .ok (.iload_n 1, 1) := by decide +kernel
theorem dX12_oddsOf_17 : decode cX12_oddsOf 17 = .ok (.if_icmp .ne 7, 3) := by decide +kernel
theorem dX12_oddsOf_24 : decode cX12_oddsOf 24 = .ok (.iconst 0, 1) := by decide +kernel
theorem dX12_oddsOf_25 : decode cX12_oddsOf 25 = .ok (.iadd, 1) := by decide +kernel
theorem dX12_oddsOf_26 : decode cX12_oddsOf 26 = .ok (.istore_n 2, 1) := by decide +kernel
theorem dX12_oddsOf_27 : decode cX12_oddsOf 27 = .ok (.iinc 3 1, 3) := by decide +kernel
theorem dX12_oddsOf_30 : decode cX12_oddsOf 30 = .ok (.goto (-26), 3) := by decide +kernel
theorem dX12_oddsOf_20 : decode cX12_oddsOf 20 = .ok (.iconst 1, 1) := by decide +kernel
theorem dX12_oddsOf_21 : decode cX12_oddsOf 21 = .ok (.goto 4, 3) := by decide +kernel
set_option maxHeartbeats 4000000 in
set_option maxRecDepth 100000 in
theorem m_oddsOf (l : Launch) (dC : Nat → ClassId) (dI : Nat → Nat → Nat) (na : Int32) (nv : Int32) (hna : 0 ≤ na ∧ na ≤ 5) : Met l yX12_oddsOf wsX12_oddsOf ({ frames := 2, cells := 0, slots := 0, locals := 46 }) (va_Pc [.int na, .int nv] (fun _ => True)) (vp_Si (fun r => r = (zN (yS na) nv 20))) 0 0 (fun _ => False) := by
  refine Met.ofW (cc := cX12_oddsOf) (maxL := 4) (ret := (some .int)) (by decide) rfl ?_
  intro p e s m args below meth c s₁ B hml hv
  obtain ⟨rfl, -⟩ := hv
  have hx := B.exec
  have hb := B.bytes
  have hr := B.returns
  have hts := atoms_spec (ws := wsX12_oddsOf) B.pre
  have hown : s.vm.findClass RX12 = some m.cls := findClass_of_methodNamed B.named
  have hlocks := B.notSynchronized
  have hl := lv_entry ([.int na, .int nv]) (n := 4) (Nat.le_of_ble_eq_true rfl)
  rw [lg_entry_eq]
  generalize (lg_sl ([.int na, .int nv]) ++ List.replicate (4 - (lg_sl ([.int na, .int nv])).length) Slot.unset).toArray = ls at hl ⊢
  have hl : lv_has ls 4 [(0, .int na), (1, .int nv)] := hl
  refine lv_iconst (v := 0) hx hb dX12_oddsOf_0 (by decide) ?_
  refine lv_istore_n (lv' := [(2, .int 0), (0, .int na), (1, .int nv)]) hx hb dX12_oddsOf_1 rfl hl (by decide) rfl (fun ls hl => ?_)
  refine lv_iconst (v := 0) hx hb dX12_oddsOf_2 (by decide) ?_
  refine lv_istore_n (lv' := [(3, .int 0), (2, .int 0), (0, .int na), (1, .int nv)]) hx hb dX12_oddsOf_3 rfl hl (by decide) rfl (fun ls hl => ?_)
  refine tz_for (σ := Int32 × Int32 × Array Slot) (fun x => W p l e _ s m _ below meth c _ _ _ _ _ (F0 m 4 x.2.2 [])) (fun i x => x.1 = nI i ∧ x.2.1 = zN (yS na) nv i ∧ lv_has x.2.2 4 [(3, .int x.1), (2, .int x.2.1), (0, .int na), (1, .int nv)]) 20 ?_ ?_ (0, 0, ls) ⟨rfl, rfl, lv_sub hl [0, 1, 2, 3] rfl⟩
  · rintro ⟨kk, od, ls⟩ ⟨ek, eo, hl⟩
    dsimp only at ek eo hl ⊢
    obtain rfl : 20 = kk := ek.symm
    obtain rfl : zN (yS na) nv 20 = od := eo.symm
    refine lv_iload_n hx hb dX12_oddsOf_4 rfl (lv_at hl 0 rfl) ?_
    refine lv_bipush (v := 20) hx hb dX12_oddsOf_5 (by decide) ?_
    refine lv_icmp_ge (tgt := 33) hx hb dX12_oddsOf_7 (by decide) (fun c_1 => ?_) (fun c_1 => ?_)
    · refine lv_iload_n hx hb dX12_oddsOf_33 rfl (lv_at hl 1 rfl) ?_
      exact W.iret (v := (zN (yS na) nv 20)) hx hb hr (fun t ht hW => ⟨(zN (yS na) nv 20), rfl, rfl, ht⟩) (fun _ h => absurd h List.not_mem_nil) dX12_oddsOf_34
    · exact absurd c_1 (by decide)
  · rintro ii ⟨kk, od, ls⟩ hi ⟨ek, eo, hl⟩ ih
    dsimp only at ek eo hl ⊢
    refine lv_iload_n hx hb dX12_oddsOf_4 rfl (lv_at hl 0 rfl) ?_
    refine lv_bipush (v := 20) hx hb dX12_oddsOf_5 (by decide) ?_
    refine lv_icmp_ge (tgt := 33) hx hb dX12_oddsOf_7 (by decide) (fun c_2 => ?_) (fun c_2 => ?_)
    · exact absurd c_2 (by rw [ek]; exact nI_ge (b := 20) hi (by decide))
    · refine lv_iload_n hx hb dX12_oddsOf_10 rfl (lv_at hl 1 rfl) ?_
      refine lv_iload_n hx hb dX12_oddsOf_11 rfl (lv_at hl 2 rfl) ?_
      refine lv_iload_n hx hb dX12_oddsOf_12 rfl (lv_at hl 0 rfl) ?_
      refine vp_callSi (va_Run.run (va_runS (As := [.int na, .int kk]) (rest := [.int od]) ⟨hx, hb, hml, hown, hts⟩ (m_offBy l dC dI na kk hna) (va_cwS 2 hts gX12_oddsOf_X12_offBy rfl rfl rfl (by decide +kernel) ⟨Nat.le_of_ble_eq_true rfl, Nat.le_of_ble_eq_true rfl⟩) ⟨fun a U g mk q => ⟨q.1, trivial⟩, fun U hU hW => ⟨rfl, trivial⟩⟩ rfl rfl hl.1 rfl (lv_room (Nat.le_of_ble_eq_true rfl)) dX12_oddsOf_13 ⟨Nat.le_of_ble_eq_true rfl, Nat.le_of_ble_eq_true rfl⟩)) (fun r_3 hw_4 => ?_)
      obtain rfl : (yS na kk) = r_3 := hw_4.symm
      refine lv_iload_n hx hb dX12_oddsOf_16 rfl (lv_at hl 3 rfl) ?_
      refine lv_icmp_ne (tgt := 24) hx hb dX12_oddsOf_17 (by decide) (fun c_5 => ?_) (fun c_5 => ?_)
      · refine lv_iconst (v := 0) hx hb dX12_oddsOf_24 (by decide) ?_
        refine lv_iadd hx hb dX12_oddsOf_25 ?_
        refine lv_istore_n (lv' := [(2, .int (od + 0)), (3, .int kk), (0, .int na), (1, .int nv)]) hx hb dX12_oddsOf_26 rfl hl (by decide) rfl (fun ls hl => ?_)
        refine lv_iinc (v := (kk + 1)) (lv' := [(3, .int (kk + 1)), (2, .int (od + 0)), (0, .int na), (1, .int nv)]) hx hb dX12_oddsOf_27 hl (k := 1) rfl rfl (by decide) rfl (fun ls hl => ?_)
        refine lv_goto (tgt := 4) hx hb dX12_oddsOf_30 (by decide) ?_
        exact ih (kk + 1, (od + 0), ls) ⟨by rw [ek]; exact nI_1 ii, by rw [zN, if_neg (ek ▸ c_5), ← eo, Int32.add_zero], lv_sub hl [0, 1, 2, 3] rfl⟩
      · refine lv_iconst (v := 1) hx hb dX12_oddsOf_20 (by decide) ?_
        refine lv_goto (tgt := 25) hx hb dX12_oddsOf_21 (by decide) ?_
        refine lv_iadd hx hb dX12_oddsOf_25 ?_
        refine lv_istore_n (lv' := [(2, .int (od + 1)), (3, .int kk), (0, .int na), (1, .int nv)]) hx hb dX12_oddsOf_26 rfl hl (by decide) rfl (fun ls hl => ?_)
        refine lv_iinc (v := (kk + 1)) (lv' := [(3, .int (kk + 1)), (2, .int (od + 1)), (0, .int na), (1, .int nv)]) hx hb dX12_oddsOf_27 hl (k := 1) rfl rfl (by decide) rfl (fun ls hl => ?_)
        refine lv_goto (tgt := 4) hx hb dX12_oddsOf_30 (by decide) ?_
        exact ih (kk + 1, (od + 1), ls) ⟨by rw [ek]; exact nI_1 ii, by rw [zN, if_pos (ek ▸ c_5), ← eo], lv_sub hl [0, 1, 2, 3] rfl⟩
set_option maxRecDepth 20000 in
theorem ggX12_way_X12_isWay : GoodIn wsX12_way wsX12_isWay := goodIn_r _ [5, 6, 7, 8, 4, 9] (by decide +kernel) (by decide +kernel)
set_option maxRecDepth 20000 in
theorem gX12_way_X12_isWay : GoodIn wsX12_way (va_wsS RX12 96 yX12_isWay wsX12_isWay) := goodIn_app (goodIn_of _ (by decide +kernel)) ggX12_way_X12_isWay
set_option maxRecDepth 20000 in
theorem ggX12_way_X12_in : GoodIn wsX12_way wsX12_in := goodIn_r _ [9] (by decide +kernel) (by decide +kernel)
set_option maxRecDepth 20000 in
theorem gX12_way_X12_in : GoodIn wsX12_way (va_wsS RX12 49 yX12_in wsX12_in) := goodIn_app (goodIn_of _ (by decide +kernel)) ggX12_way_X12_in
set_option maxRecDepth 20000 in
theorem ggX12_way_X12_offBy : GoodIn wsX12_way wsX12_offBy := goodIn_r _ [23, 24, 25, 26, 27, 4, 28, 29, 30, 31, 7, 8, 9] (by decide +kernel) (by decide +kernel)
set_option maxRecDepth 20000 in
theorem gX12_way_X12_offBy : GoodIn wsX12_way (va_wsS RX12 126 yX12_offBy wsX12_offBy) := goodIn_app (goodIn_of _ (by decide +kernel)) ggX12_way_X12_offBy
set_option maxRecDepth 20000 in
theorem ggX12_way_X12_oddsOf : GoodIn wsX12_way wsX12_oddsOf := goodIn_r _ [20, 21, 22, 4, 23, 24, 25, 26, 27, 28, 29, 30, 31, 7, 8, 9] (by decide +kernel) (by decide +kernel)
set_option maxRecDepth 20000 in
theorem gX12_way_X12_oddsOf : GoodIn wsX12_way (va_wsS RX12 134 yX12_oddsOf wsX12_oddsOf) := goodIn_app (goodIn_of _ (by decide +kernel)) ggX12_way_X12_oddsOf
set_option maxRecDepth 20000 in
theorem ggX12_way_X12_minutesOf : GoodIn wsX12_way wsX12_minutesOf := goodIn_r _ [17] (by decide +kernel) (by decide +kernel)
set_option maxRecDepth 20000 in
theorem gX12_way_X12_minutesOf : GoodIn wsX12_way (va_wsS RX12 131 yX12_minutesOf wsX12_minutesOf) := goodIn_app (goodIn_of _ (by decide +kernel)) ggX12_way_X12_minutesOf
set_option maxRecDepth 20000 in
theorem ggX12_way_X12_bad : GoodIn wsX12_way wsX12_bad := goodIn_r _ [13, 14, 32, 33, 34, 35, 36, 37, 38, 39, 40, 41, 42, 43, 44, 45, 46, 47, 48, 49, 50, 51, 52, 53, 54, 55] (by decide +kernel) (by decide +kernel)
set_option maxRecDepth 20000 in
theorem gX12_way_X12_bad : GoodIn wsX12_way (wsV RX12 61 RX12 yX12_bad wsX12_bad) := goodIn_app (goodIn_of _ (by decide +kernel)) ggX12_way_X12_bad
theorem dX12_way_0 : decode cX12_way 0 = .ok (.iload_n 1, 1) := by decide +kernel
theorem dX12_way_1 : decode cX12_way 1 = .ok (.invokestatic 96, 3) := by decide +kernel
theorem dX12_way_4 : decode cX12_way 4 = .ok (.ifCond .eq 15, 3) := by decide +kernel
theorem dX12_way_7 : decode cX12_way 7 = .ok (.iload_n 2, 1) := by decide +kernel
theorem dX12_way_8 : decode cX12_way 8 = .ok (.i2l, 1) := by decide +kernel
theorem dX12_way_9 : decode cX12_way 9 = .ok (.lconst 0, 1) := by decide +kernel
theorem dX12_way_10 : decode cX12_way 10 = .ok (.ldc2_w 129, 3) := by decide +kernel
theorem dX12_way_13 : decode cX12_way 13 = .ok (.invokestatic 49, 3) := by decide +kernel
theorem dX12_way_16 : decode cX12_way 16 = .ok (.ifCond .ne 10, 3) := by decide +kernel
theorem dX12_way_26 : decode cX12_way 26 = .ok (.iload_n 2, 1) := by decide +kernel
theorem dX12_way_27 : decode cX12_way 27 = .ok (.bipush 20, 2) := by decide +kernel
theorem dX12_way_29 : decode cX12_way 29 = .ok (.if_icmp .ne 10, 3) := by decide +kernel
theorem dX12_way_39 : decode cX12_way 39 = .ok (.iload_n 2, 1) := by decide +kernel
theorem dX12_way_40 : decode cX12_way 40 = .ok (.bipush 21, 2) := by decide +kernel
theorem dX12_way_42 : decode cX12_way 42 = .ok (.if_icmp .ne 11, 3) := by decide +kernel
theorem dX12_way_53 : decode cX12_way 53 = .ok (.iload_n 1, 1) := by decide +kernel
theorem dX12_way_54 : decode cX12_way 54 = .ok (.iload_n 2, 1) := by decide +kernel
theorem dX12_way_55 : decode cX12_way 55 = .ok (.invokestatic 126, 3) := by decide +kernel
theorem dX12_way_58 : decode cX12_way 58 = .ok (.ireturn, 1) := by decide +kernel
theorem dX12_way_45 : decode cX12_way 45 = .ok (.iload_n 1, 1) := by decide +kernel
theorem dX12_way_46 : decode cX12_way 46 = .ok (.iconst 0, 1) := by decide +kernel
theorem dX12_way_47 : decode cX12_way 47 = .ok (.invokestatic 134, 3) := by decide +kernel
theorem dX12_way_50 : decode cX12_way 50 = .ok (.goto 8, 3) := by decide +kernel
theorem dX12_way_32 : decode cX12_way 32 = .ok (.iload_n 1, 1) := by decide +kernel
theorem dX12_way_33 : decode cX12_way 33 = .ok (.invokestatic 131, 3) := by decide +kernel
theorem dX12_way_36 : decode cX12_way 36 = .ok (.goto 22, 3) := by decide +kernel
theorem dX12_way_19 : decode cX12_way 19 = .ok (.aload_n 0, 1) := by decide +kernel
theorem dX12_way_20 : decode cX12_way 20 = .ok (.bipush (-100), 2) := by decide +kernel
theorem dX12_way_22 : decode cX12_way 22 = .ok (.invokevirtual 61, 3) := by decide +kernel
theorem dX12_way_25 : decode cX12_way 25 = .ok (.ireturn, 1) := by decide +kernel
set_option maxHeartbeats 4000000 in
set_option maxRecDepth 100000 in
theorem m_way (l : Launch) (dC : Nat → ClassId) (dI : Nat → Nat → Nat) (mo : Nat) (nw : Nat) (kp : Nat) (ik : Nat) (mr : Nat) (la_ : Int64) (lb_ : Int64) (mw : Nat) (lc_ : Int64) (ti_ : Int32) (cb_ : Int32) (ld_ : Int64) (le_ : Int64) (mq : Nat) (mz : Nat) (my : Nat) (sm_ : Int32) (mb : Nat) (bl_ : Int32) (ta_ : Int32) (tl_ : Int32) (tk_ : Int32) (vl_ : Int32) (mx : Nat) (mv : Nat) (cr_ : ClassId) (fr_ : Nat → Int32) (na : Int32) (nb : Int32) (sz : Nat) : Met l yX12_way wsX12_way ({ frames := 3, cells := 0, slots := 0, locals := 69 }) (va_Pc [.ref mo, .int na, .int nb] (fun U => U.heap.size = sz ∧ va_P (dC, dI) vwCl [(mo, .inr (12, [.ref nw, .ref kp, .ref ik, .ref mr, .long la_, .long lb_, .ref mw, .long lc_, .int ti_, .int cb_, .long ld_, .long le_, .ref mq, .ref mz, .ref my, .int sm_, .ref mb, .int bl_, .int ta_, .int tl_, .int tk_, .int vl_, .ref mx, .ref mv])), (mr, .inl (cr_, 3, .inl fr_))] U.heap ∧ va_K (dC, dI) vwCl [(cr_, .int)] U ∧ va_D (fun _ => True) [(mo, .inr (12, [.ref nw, .ref kp, .ref ik, .ref mr, .long la_, .long lb_, .ref mw, .long lc_, .int ti_, .int cb_, .long ld_, .long le_, .ref mq, .ref mz, .ref my, .int sm_, .ref mb, .int bl_, .int ta_, .int tl_, .int tk_, .int vl_, .ref mx, .ref mv])), (mr, .inl (cr_, 3, .inl fr_))])) (va_Qi (fun (r : Int32) (_ : Unit) => r = (if 0 ≤ na ∧ na ≤ 5 then (if 0 ≤ nb ∧ nb ≤ 21 then (if nb = 20 then zM na else if nb = 21 then zN (yS na) 0 20 else yS na nb) else (-100)) else (-100))) (fun _ t => ∃ (gr_ : Nat → Int32), va_P (dC, dI) vwCl [(mo, .inr (12, [.ref nw, .ref kp, .ref ik, .ref mr, .long la_, .long lb_, .ref mw, .long lc_, .int ti_, .int cb_, .long ld_, .long le_, .ref mq, .ref mz, .ref my, .int sm_, .ref mb, .int bl_, .int ta_, .int tl_, .int tk_, .int vl_, .ref mx, .ref mv])), (mr, .inl (cr_, 3, .inl gr_))] t.heap ∧ va_K (dC, dI) vwCl [(cr_, .int)] t ∧ va_D (va_A [(mo, .inr (12, [.ref nw, .ref kp, .ref ik, .ref mr, .long la_, .long lb_, .ref mw, .long lc_, .int ti_, .int cb_, .long ld_, .long le_, .ref mq, .ref mz, .ref my, .int sm_, .ref mb, .int bl_, .int ta_, .int tl_, .int tk_, .int vl_, .ref mx, .ref mv])), (mr, .inl (cr_, 3, .inl fr_))] sz) [(mo, .inr (12, [.ref nw, .ref kp, .ref ik, .ref mr, .long la_, .long lb_, .ref mw, .long lc_, .int ti_, .int cb_, .long ld_, .long le_, .ref mq, .ref mz, .ref my, .int sm_, .ref mb, .int bl_, .int ta_, .int tl_, .int tk_, .int vl_, .ref mx, .ref mv])), (mr, .inl (cr_, 3, .inl gr_))]) (va_A [(mo, .inr (12, [.ref nw, .ref kp, .ref ik, .ref mr, .long la_, .long lb_, .ref mw, .long lc_, .int ti_, .int cb_, .long ld_, .long le_, .ref mq, .ref mz, .ref my, .int sm_, .ref mb, .int bl_, .int ta_, .int tl_, .int tk_, .int vl_, .ref mx, .ref mv])), (mr, .inl (cr_, 3, .inl fr_))] sz)) 0 0 (va_A [(mo, .inr (12, [.ref nw, .ref kp, .ref ik, .ref mr, .long la_, .long lb_, .ref mw, .long lc_, .int ti_, .int cb_, .long ld_, .long le_, .ref mq, .ref mz, .ref my, .int sm_, .ref mb, .int bl_, .int ta_, .int tl_, .int tk_, .int vl_, .ref mx, .ref mv])), (mr, .inl (cr_, 3, .inl fr_))] sz) := by
  refine Met.ofW (cc := cX12_way) (maxL := 3) (ret := (some .int)) (by decide) rfl ?_
  intro p e s m args below meth c s₁ B hml hv
  obtain ⟨rfl, hsz, hP, hK, hD0⟩ := hv
  have hx := B.exec
  have hb := B.bytes
  have hr := B.returns
  have hts := atoms_spec (ws := wsX12_way) B.pre
  have hown : s.vm.findClass RX12 = some m.cls := findClass_of_methodNamed B.named
  have hlocks := B.notSynchronized
  subst hsz
  have hD := hD0.self (sz := s.heap.size)
  generalize hAe : va_A [(mo, .inr (12, [.ref nw, .ref kp, .ref ik, .ref mr, .long la_, .long lb_, .ref mw, .long lc_, .int ti_, .int cb_, .long ld_, .long le_, .ref mq, .ref mz, .ref my, .int sm_, .ref mb, .int bl_, .int ta_, .int tl_, .int tk_, .int vl_, .ref mx, .ref mv])), (mr, .inl (cr_, 3, .inl fr_))] s.heap.size = A at hD ⊢
  have hA : ∀ q : Nat, s.heap.size ≤ q → A q := fun q h => by rw [← hAe]; exact Or.inr h
  have hS : va_S A s.heap s.heap [] := va_S.rf
  have hP : va_P (dC, dI) vwCl [(mo, .inr (12, [.ref nw, .ref kp, .ref ik, .ref mr, .long la_, .long lb_, .ref mw, .long lc_, .int ti_, .int cb_, .long ld_, .long le_, .ref mq, .ref mz, .ref my, .int sm_, .ref mb, .int bl_, .int ta_, .int tl_, .int tk_, .int vl_, .ref mx, .ref mv])), (mr, .inl (cr_, 3, .inl fr_))] s.heap := hP
  have hl := lv_entry ([.ref mo, .int na, .int nb]) (n := 3) (Nat.le_of_ble_eq_true rfl)
  rw [lg_entry_eq]
  generalize (lg_sl ([.ref mo, .int na, .int nb]) ++ List.replicate (3 - (lg_sl ([.ref mo, .int na, .int nb])).length) Slot.unset).toArray = ls at hl ⊢
  have hl : lv_has ls 3 [(0, .ref mo), (1, .int na), (2, .int nb)] := hl
  refine lv_iload_n hx hb dX12_way_0 rfl (lv_at hl 1 rfl) ?_
  refine vp_callSi (va_Run.run (va_runS (As := [.int na]) (rest := []) ⟨hx, hb, hml, hown, hts⟩ (m_isWay l dC dI na) (va_cwS 1 hts gX12_way_X12_isWay rfl rfl rfl (by decide +kernel) ⟨Nat.le_of_ble_eq_true rfl, Nat.le_of_ble_eq_true rfl⟩) ⟨fun a U g mk q => ⟨q.1, trivial⟩, fun U hU hW => ⟨rfl, trivial⟩⟩ rfl rfl hl.1 rfl (lv_room (Nat.le_of_ble_eq_true rfl)) dX12_way_1 ⟨Nat.le_of_ble_eq_true rfl, Nat.le_of_ble_eq_true rfl⟩)) (fun r_1 hw_2 => ?_)
  by_cases hc_3 : 0 ≤ na ∧ na ≤ 5
  · obtain rfl : 1 = r_1 := (hw_2.trans (if_pos hc_3)).symm
    refine lv_if_eq (tgt := 19) hx hb dX12_way_4 (by decide) (fun c_4 => ?_) (fun c_4 => ?_)
    · exact absurd c_4 (by decide)
    · refine lv_iload_n hx hb dX12_way_7 rfl (lv_at hl 2 rfl) ?_
      refine lv_i2l (v := nb.toInt64) hx hb dX12_way_8 rfl ?_
      refine lv_lconst (v := 0) hx hb dX12_way_9 (by decide) ?_
      refine lv_ldc2 hx hb hown (hts (.constantLong RX12 129 (21)) (by decide +kernel)) dX12_way_10 ?_
      refine vp_callSi (va_Run.run (va_runS (As := [.long nb.toInt64, .long 0, .long 21]) (rest := []) ⟨hx, hb, hml, hown, hts⟩ (m_in l dC dI nb.toInt64 0 21) (va_cwS 3 hts gX12_way_X12_in rfl rfl rfl (by decide +kernel) ⟨Nat.le_of_ble_eq_true rfl, Nat.le_of_ble_eq_true rfl⟩) ⟨fun a U g mk q => ⟨q.1, trivial⟩, fun U hU hW => ⟨rfl, trivial⟩⟩ rfl rfl hl.1 rfl (lv_room (Nat.le_of_ble_eq_true rfl)) dX12_way_13 ⟨Nat.le_of_ble_eq_true rfl, Nat.le_of_ble_eq_true rfl⟩)) (fun r_5 hw_6 => ?_)
      by_cases hc_7 : 0 ≤ nb ∧ nb ≤ 21
      · obtain rfl : 1 = r_5 := (hw_6.trans (if_pos ((tz_in64 (by first | rfl | decide) rfl (by first | rfl | decide)).mpr hc_7))).symm
        refine lv_if_ne (tgt := 26) hx hb dX12_way_16 (by decide) (fun c_8 => ?_) (fun c_8 => ?_)
        · refine lv_iload_n hx hb dX12_way_26 rfl (lv_at hl 2 rfl) ?_
          refine lv_bipush (v := 20) hx hb dX12_way_27 (by decide) ?_
          refine lv_icmp_ne (tgt := 39) hx hb dX12_way_29 (by decide) (fun c_9 => ?_) (fun c_9 => ?_)
          · refine lv_iload_n hx hb dX12_way_39 rfl (lv_at hl 2 rfl) ?_
            refine lv_bipush (v := 21) hx hb dX12_way_40 (by decide) ?_
            refine lv_icmp_ne (tgt := 53) hx hb dX12_way_42 (by decide) (fun c_10 => ?_) (fun c_10 => ?_)
            · refine lv_iload_n hx hb dX12_way_53 rfl (lv_at hl 1 rfl) ?_
              refine lv_iload_n hx hb dX12_way_54 rfl (lv_at hl 2 rfl) ?_
              refine vp_callSi (va_Run.run (va_runS (As := [.int na, .int nb]) (rest := []) ⟨hx, hb, hml, hown, hts⟩ (m_offBy l dC dI na nb hc_3) (va_cwS 2 hts gX12_way_X12_offBy rfl rfl rfl (by decide +kernel) ⟨Nat.le_of_ble_eq_true rfl, Nat.le_of_ble_eq_true rfl⟩) ⟨fun a U g mk q => ⟨q.1, trivial⟩, fun U hU hW => ⟨rfl, trivial⟩⟩ rfl rfl hl.1 rfl (lv_room (Nat.le_of_ble_eq_true rfl)) dX12_way_55 ⟨Nat.le_of_ble_eq_true rfl, Nat.le_of_ble_eq_true rfl⟩)) (fun r_11 hw_12 => ?_)
              obtain rfl : (yS na nb) = r_11 := hw_12.symm
              have hP9 := hP.sub (ws' := [(mo, .inr (12, [.ref nw, .ref kp, .ref ik, .ref mr, .long la_, .long lb_, .ref mw, .long lc_, .int ti_, .int cb_, .long ld_, .long le_, .ref mq, .ref mz, .ref my, .int sm_, .ref mb, .int bl_, .int ta_, .int tl_, .int tk_, .int vl_, .ref mx, .ref mv])), (mr, .inl (cr_, 3, .inl fr_))]) [0, 1] rfl
              have hD9 := hD.sub (ws' := [(mo, .inr (12, [.ref nw, .ref kp, .ref ik, .ref mr, .long la_, .long lb_, .ref mw, .long lc_, .int ti_, .int cb_, .long ld_, .long le_, .ref mq, .ref mz, .ref my, .int sm_, .ref mb, .int bl_, .int ta_, .int tl_, .int tk_, .int vl_, .ref mx, .ref mv])), (mr, .inl (cr_, 3, .inl fr_))]) [0, 1] (by decide) rfl
              have hK9 := hK.sub (tys' := [(cr_, .int)]) [0] rfl
              exact W.iret (v := (yS na nb)) hx hb hr (fun t ht hW => ⟨⟨(yS na nb), (), rfl, ((if_pos hc_3).trans ((if_pos hc_7).trans ((if_neg c_9).trans (if_neg c_10)))).symm, fr_, by rw [ht]; exact hP9, va_K.moved hW.alike hK9, hD9⟩, hS.F ht⟩) hS.2.2 dX12_way_58
            · refine lv_iload_n hx hb dX12_way_45 rfl (lv_at hl 1 rfl) ?_
              refine lv_iconst (v := 0) hx hb dX12_way_46 (by decide) ?_
              refine vp_callSi (va_Run.run (va_runS (As := [.int na, .int 0]) (rest := []) ⟨hx, hb, hml, hown, hts⟩ (m_oddsOf l dC dI na 0 hc_3) (va_cwS 2 hts gX12_way_X12_oddsOf rfl rfl rfl (by decide +kernel) ⟨Nat.le_of_ble_eq_true rfl, Nat.le_of_ble_eq_true rfl⟩) ⟨fun a U g mk q => ⟨q.1, trivial⟩, fun U hU hW => ⟨rfl, trivial⟩⟩ rfl rfl hl.1 rfl (lv_room (Nat.le_of_ble_eq_true rfl)) dX12_way_47 ⟨Nat.le_of_ble_eq_true rfl, Nat.le_of_ble_eq_true rfl⟩)) (fun r_13 hw_14 => ?_)
              obtain rfl : (zN (yS na) 0 20) = r_13 := hw_14.symm
              refine lv_goto (tgt := 58) hx hb dX12_way_50 (by decide) ?_
              have hP9 := hP.sub (ws' := [(mo, .inr (12, [.ref nw, .ref kp, .ref ik, .ref mr, .long la_, .long lb_, .ref mw, .long lc_, .int ti_, .int cb_, .long ld_, .long le_, .ref mq, .ref mz, .ref my, .int sm_, .ref mb, .int bl_, .int ta_, .int tl_, .int tk_, .int vl_, .ref mx, .ref mv])), (mr, .inl (cr_, 3, .inl fr_))]) [0, 1] rfl
              have hD9 := hD.sub (ws' := [(mo, .inr (12, [.ref nw, .ref kp, .ref ik, .ref mr, .long la_, .long lb_, .ref mw, .long lc_, .int ti_, .int cb_, .long ld_, .long le_, .ref mq, .ref mz, .ref my, .int sm_, .ref mb, .int bl_, .int ta_, .int tl_, .int tk_, .int vl_, .ref mx, .ref mv])), (mr, .inl (cr_, 3, .inl fr_))]) [0, 1] (by decide) rfl
              have hK9 := hK.sub (tys' := [(cr_, .int)]) [0] rfl
              exact W.iret (v := (zN (yS na) 0 20)) hx hb hr (fun t ht hW => ⟨⟨(zN (yS na) 0 20), (), rfl, ((if_pos hc_3).trans ((if_pos hc_7).trans ((if_neg c_9).trans (if_pos c_10)))).symm, fr_, by rw [ht]; exact hP9, va_K.moved hW.alike hK9, hD9⟩, hS.F ht⟩) hS.2.2 dX12_way_58
          · refine lv_iload_n hx hb dX12_way_32 rfl (lv_at hl 1 rfl) ?_
            refine vp_callSi (va_Run.run (va_runS (As := [.int na]) (rest := []) ⟨hx, hb, hml, hown, hts⟩ (m_minutesOf l dC dI na) (va_cwS 1 hts gX12_way_X12_minutesOf rfl rfl rfl (by decide +kernel) ⟨Nat.le_of_ble_eq_true rfl, Nat.le_of_ble_eq_true rfl⟩) ⟨fun a U g mk q => ⟨q.1, trivial⟩, fun U hU hW => ⟨rfl, trivial⟩⟩ rfl rfl hl.1 rfl (lv_room (Nat.le_of_ble_eq_true rfl)) dX12_way_33 ⟨Nat.le_of_ble_eq_true rfl, Nat.le_of_ble_eq_true rfl⟩)) (fun r_15 hw_16 => ?_)
            obtain rfl : (zM na) = r_15 := hw_16.symm
            refine lv_goto (tgt := 58) hx hb dX12_way_36 (by decide) ?_
            have hP9 := hP.sub (ws' := [(mo, .inr (12, [.ref nw, .ref kp, .ref ik, .ref mr, .long la_, .long lb_, .ref mw, .long lc_, .int ti_, .int cb_, .long ld_, .long le_, .ref mq, .ref mz, .ref my, .int sm_, .ref mb, .int bl_, .int ta_, .int tl_, .int tk_, .int vl_, .ref mx, .ref mv])), (mr, .inl (cr_, 3, .inl fr_))]) [0, 1] rfl
            have hD9 := hD.sub (ws' := [(mo, .inr (12, [.ref nw, .ref kp, .ref ik, .ref mr, .long la_, .long lb_, .ref mw, .long lc_, .int ti_, .int cb_, .long ld_, .long le_, .ref mq, .ref mz, .ref my, .int sm_, .ref mb, .int bl_, .int ta_, .int tl_, .int tk_, .int vl_, .ref mx, .ref mv])), (mr, .inl (cr_, 3, .inl fr_))]) [0, 1] (by decide) rfl
            have hK9 := hK.sub (tys' := [(cr_, .int)]) [0] rfl
            exact W.iret (v := (zM na)) hx hb hr (fun t ht hW => ⟨⟨(zM na), (), rfl, ((if_pos hc_3).trans ((if_pos hc_7).trans (if_pos c_9))).symm, fr_, by rw [ht]; exact hP9, va_K.moved hW.alike hK9, hD9⟩, hS.F ht⟩) hS.2.2 dX12_way_58
        · exact absurd c_8 (by decide)
      · obtain rfl : 0 = r_5 := (hw_6.trans (if_neg (fun z => hc_7 ((tz_in64 (by first | rfl | decide) rfl (by first | rfl | decide)).mp z)))).symm
        refine lv_if_ne (tgt := 26) hx hb dX12_way_16 (by decide) (fun c_17 => ?_) (fun c_17 => ?_)
        · exact absurd c_17 (by decide)
        · refine lv_aload_n hx hb dX12_way_19 rfl (lv_at hl 0 rfl) ?_
          refine lv_bipush (v := (-100)) hx hb dX12_way_20 (by decide) ?_
          have hPc := hP.sub (ws' := [(mo, .inr (12, [.ref nw, .ref kp, .ref ik, .ref mr, .long la_, .long lb_, .ref mw, .long lc_, .int ti_, .int cb_, .long ld_, .long le_, .ref mq, .ref mz, .ref my, .int sm_, .ref mb, .int bl_, .int ta_, .int tl_, .int tk_, .int vl_, .ref mx, .ref mv])), (mr, .inl (cr_, 3, .inl fr_))]) [0, 1] rfl
          have hDc := hD.sub (ws' := [(mo, .inr (12, [.ref nw, .ref kp, .ref ik, .ref mr, .long la_, .long lb_, .ref mw, .long lc_, .int ti_, .int cb_, .long ld_, .long le_, .ref mq, .ref mz, .ref my, .int sm_, .ref mb, .int bl_, .int ta_, .int tl_, .int tk_, .int vl_, .ref mx, .ref mv])), (mr, .inl (cr_, 3, .inl fr_))]) [0, 1] (by decide) rfl
          have hKc := hK.sub (tys' := [(cr_, .int)]) [0] rfl
          have hFc := va_free (wc := [(mo, .inr (12, [.ref nw, .ref kp, .ref ik, .ref mr, .long la_, .long lb_, .ref mw, .long lc_, .int ti_, .int cb_, .long ld_, .long le_, .ref mq, .ref mz, .ref my, .int sm_, .ref mb, .int bl_, .int ta_, .int tl_, .int tk_, .int vl_, .ref mx, .ref mv])), (mr, .inl (cr_, 3, .inl fr_))]) hD hS hA [0, 1] rfl
          refine va_calli (va_runV (As := [.int (-100)]) (rest := []) ⟨hx, hb, hml, hown, hts⟩ (m_bad l dC dI mo nw kp ik mr la_ lb_ mw lc_ ti_ cb_ ld_ le_ mq mz my sm_ mb bl_ ta_ tl_ tk_ vl_ mx mv cr_ fr_ (-100) s.heap.size) (cwV 1 hts gX12_way_X12_bad rfl rfl rfl (by decide +kernel) ⟨Nat.le_of_ble_eq_true rfl, Nat.le_of_ble_eq_true rfl⟩) ⟨fun a U g mk q => by obtain ⟨q0, q1, qP, qK, qD⟩ := q; exact ⟨q0, q1, qP, va_K.moved (u := U) (U := U.calling g mk a) (Vm.Alike.refl U.vm) qK, qD⟩, va_recv hK hP (ci := 12) (q0 := 0) rfl rfl, fun U hU hW => ⟨rfl, by rw [hU], by rw [hU]; exact hPc, va_K.moved hW.alike hKc, hDc.weaken (fun _ _ _ _ => trivial)⟩⟩ rfl rfl hl.1 rfl (lv_room (Nat.le_of_ble_eq_true rfl)) dX12_way_22 ⟨Nat.le_of_ble_eq_true rfl, Nat.le_of_ble_eq_true rfl⟩) hS (fun q _ h => hFc q h) hFc (fun r_18 u_ t H1 locs ht hvm hw_19 hB hz1 hk1 hS => ?_)
          obtain ⟨gr__20, hP1, hK1, hD1⟩ := hB
          rw [ht] at hP1
          have hK1 := va_K.moved hvm.symm hK1
          obtain ⟨hP, hD⟩ := va_join (wr := []) (w1 := [(mo, .inr (12, [.ref nw, .ref kp, .ref ik, .ref mr, .long la_, .long lb_, .ref mw, .long lc_, .int ti_, .int cb_, .long ld_, .long le_, .ref mq, .ref mz, .ref my, .int sm_, .ref mb, .int bl_, .int ta_, .int tl_, .int tk_, .int vl_, .ref mx, .ref mv])), (mr, .inl (cr_, 3, .inl gr__20))]) hP hD [0, 1] [] rfl rfl (by decide) (by decide) hk1 hFc hP1 hD1
          generalize H1 = H at hP hS ⊢
          have hP : va_P (dC, dI) vwCl [(mo, .inr (12, [.ref nw, .ref kp, .ref ik, .ref mr, .long la_, .long lb_, .ref mw, .long lc_, .int ti_, .int cb_, .long ld_, .long le_, .ref mq, .ref mz, .ref my, .int sm_, .ref mb, .int bl_, .int ta_, .int tl_, .int tk_, .int vl_, .ref mx, .ref mv])), (mr, .inl (cr_, 3, .inl gr__20))] H := hP
          have hD : va_D A [(mo, .inr (12, [.ref nw, .ref kp, .ref ik, .ref mr, .long la_, .long lb_, .ref mw, .long lc_, .int ti_, .int cb_, .long ld_, .long le_, .ref mq, .ref mz, .ref my, .int sm_, .ref mb, .int bl_, .int ta_, .int tl_, .int tk_, .int vl_, .ref mx, .ref mv])), (mr, .inl (cr_, 3, .inl gr__20))] := hD
          obtain rfl : (-100) = r_18 := hw_19.symm
          have hP9 := hP.sub (ws' := [(mo, .inr (12, [.ref nw, .ref kp, .ref ik, .ref mr, .long la_, .long lb_, .ref mw, .long lc_, .int ti_, .int cb_, .long ld_, .long le_, .ref mq, .ref mz, .ref my, .int sm_, .ref mb, .int bl_, .int ta_, .int tl_, .int tk_, .int vl_, .ref mx, .ref mv])), (mr, .inl (cr_, 3, .inl gr__20))]) [0, 1] rfl
          have hD9 := hD.sub (ws' := [(mo, .inr (12, [.ref nw, .ref kp, .ref ik, .ref mr, .long la_, .long lb_, .ref mw, .long lc_, .int ti_, .int cb_, .long ld_, .long le_, .ref mq, .ref mz, .ref my, .int sm_, .ref mb, .int bl_, .int ta_, .int tl_, .int tk_, .int vl_, .ref mx, .ref mv])), (mr, .inl (cr_, 3, .inl gr__20))]) [0, 1] (by decide) rfl
          have hK9 := hK.sub (tys' := [(cr_, .int)]) [0] rfl
          exact W.iret (v := (-100)) hx hb hr (fun t ht hW => ⟨⟨(-100), (), rfl, ((if_pos hc_3).trans (if_neg hc_7)).symm, gr__20, by rw [ht]; exact hP9, va_K.moved hW.alike hK9, hD9⟩, hS.F ht⟩) hS.2.2 dX12_way_25
  · obtain rfl : 0 = r_1 := (hw_2.trans (if_neg hc_3)).symm
    refine lv_if_eq (tgt := 19) hx hb dX12_way_4 (by decide) (fun c_21 => ?_) (fun c_21 => ?_)
    · refine lv_aload_n hx hb dX12_way_19 rfl (lv_at hl 0 rfl) ?_
      refine lv_bipush (v := (-100)) hx hb dX12_way_20 (by decide) ?_
      have hPc := hP.sub (ws' := [(mo, .inr (12, [.ref nw, .ref kp, .ref ik, .ref mr, .long la_, .long lb_, .ref mw, .long lc_, .int ti_, .int cb_, .long ld_, .long le_, .ref mq, .ref mz, .ref my, .int sm_, .ref mb, .int bl_, .int ta_, .int tl_, .int tk_, .int vl_, .ref mx, .ref mv])), (mr, .inl (cr_, 3, .inl fr_))]) [0, 1] rfl
      have hDc := hD.sub (ws' := [(mo, .inr (12, [.ref nw, .ref kp, .ref ik, .ref mr, .long la_, .long lb_, .ref mw, .long lc_, .int ti_, .int cb_, .long ld_, .long le_, .ref mq, .ref mz, .ref my, .int sm_, .ref mb, .int bl_, .int ta_, .int tl_, .int tk_, .int vl_, .ref mx, .ref mv])), (mr, .inl (cr_, 3, .inl fr_))]) [0, 1] (by decide) rfl
      have hKc := hK.sub (tys' := [(cr_, .int)]) [0] rfl
      have hFc := va_free (wc := [(mo, .inr (12, [.ref nw, .ref kp, .ref ik, .ref mr, .long la_, .long lb_, .ref mw, .long lc_, .int ti_, .int cb_, .long ld_, .long le_, .ref mq, .ref mz, .ref my, .int sm_, .ref mb, .int bl_, .int ta_, .int tl_, .int tk_, .int vl_, .ref mx, .ref mv])), (mr, .inl (cr_, 3, .inl fr_))]) hD hS hA [0, 1] rfl
      refine va_calli (va_runV (As := [.int (-100)]) (rest := []) ⟨hx, hb, hml, hown, hts⟩ (m_bad l dC dI mo nw kp ik mr la_ lb_ mw lc_ ti_ cb_ ld_ le_ mq mz my sm_ mb bl_ ta_ tl_ tk_ vl_ mx mv cr_ fr_ (-100) s.heap.size) (cwV 1 hts gX12_way_X12_bad rfl rfl rfl (by decide +kernel) ⟨Nat.le_of_ble_eq_true rfl, Nat.le_of_ble_eq_true rfl⟩) ⟨fun a U g mk q => by obtain ⟨q0, q1, qP, qK, qD⟩ := q; exact ⟨q0, q1, qP, va_K.moved (u := U) (U := U.calling g mk a) (Vm.Alike.refl U.vm) qK, qD⟩, va_recv hK hP (ci := 12) (q0 := 0) rfl rfl, fun U hU hW => ⟨rfl, by rw [hU], by rw [hU]; exact hPc, va_K.moved hW.alike hKc, hDc.weaken (fun _ _ _ _ => trivial)⟩⟩ rfl rfl hl.1 rfl (lv_room (Nat.le_of_ble_eq_true rfl)) dX12_way_22 ⟨Nat.le_of_ble_eq_true rfl, Nat.le_of_ble_eq_true rfl⟩) hS (fun q _ h => hFc q h) hFc (fun r_22 u_ t H1 locs ht hvm hw_23 hB hz1 hk1 hS => ?_)
      obtain ⟨gr__24, hP1, hK1, hD1⟩ := hB
      rw [ht] at hP1
      have hK1 := va_K.moved hvm.symm hK1
      obtain ⟨hP, hD⟩ := va_join (wr := []) (w1 := [(mo, .inr (12, [.ref nw, .ref kp, .ref ik, .ref mr, .long la_, .long lb_, .ref mw, .long lc_, .int ti_, .int cb_, .long ld_, .long le_, .ref mq, .ref mz, .ref my, .int sm_, .ref mb, .int bl_, .int ta_, .int tl_, .int tk_, .int vl_, .ref mx, .ref mv])), (mr, .inl (cr_, 3, .inl gr__24))]) hP hD [0, 1] [] rfl rfl (by decide) (by decide) hk1 hFc hP1 hD1
      generalize H1 = H at hP hS ⊢
      have hP : va_P (dC, dI) vwCl [(mo, .inr (12, [.ref nw, .ref kp, .ref ik, .ref mr, .long la_, .long lb_, .ref mw, .long lc_, .int ti_, .int cb_, .long ld_, .long le_, .ref mq, .ref mz, .ref my, .int sm_, .ref mb, .int bl_, .int ta_, .int tl_, .int tk_, .int vl_, .ref mx, .ref mv])), (mr, .inl (cr_, 3, .inl gr__24))] H := hP
      have hD : va_D A [(mo, .inr (12, [.ref nw, .ref kp, .ref ik, .ref mr, .long la_, .long lb_, .ref mw, .long lc_, .int ti_, .int cb_, .long ld_, .long le_, .ref mq, .ref mz, .ref my, .int sm_, .ref mb, .int bl_, .int ta_, .int tl_, .int tk_, .int vl_, .ref mx, .ref mv])), (mr, .inl (cr_, 3, .inl gr__24))] := hD
      obtain rfl : (-100) = r_22 := hw_23.symm
      have hP9 := hP.sub (ws' := [(mo, .inr (12, [.ref nw, .ref kp, .ref ik, .ref mr, .long la_, .long lb_, .ref mw, .long lc_, .int ti_, .int cb_, .long ld_, .long le_, .ref mq, .ref mz, .ref my, .int sm_, .ref mb, .int bl_, .int ta_, .int tl_, .int tk_, .int vl_, .ref mx, .ref mv])), (mr, .inl (cr_, 3, .inl gr__24))]) [0, 1] rfl
      have hD9 := hD.sub (ws' := [(mo, .inr (12, [.ref nw, .ref kp, .ref ik, .ref mr, .long la_, .long lb_, .ref mw, .long lc_, .int ti_, .int cb_, .long ld_, .long le_, .ref mq, .ref mz, .ref my, .int sm_, .ref mb, .int bl_, .int ta_, .int tl_, .int tk_, .int vl_, .ref mx, .ref mv])), (mr, .inl (cr_, 3, .inl gr__24))]) [0, 1] (by decide) rfl
      have hK9 := hK.sub (tys' := [(cr_, .int)]) [0] rfl
      exact W.iret (v := (-100)) hx hb hr (fun t ht hW => ⟨⟨(-100), (), rfl, (if_neg hc_3).symm, gr__24, by rw [ht]; exact hP9, va_K.moved hW.alike hK9, hD9⟩, hS.F ht⟩) hS.2.2 dX12_way_25
    · exact absurd c_21 (by decide)
set_option maxRecDepth 20000 in
theorem ggX12_odds_X12_isWay : GoodIn wsX12_odds wsX12_isWay := goodIn_r _ [6, 7, 8, 9, 5, 10] (by decide +kernel) (by decide +kernel)
set_option maxRecDepth 20000 in
theorem gX12_odds_X12_isWay : GoodIn wsX12_odds (va_wsS RX12 96 yX12_isWay wsX12_isWay) := goodIn_app (goodIn_of _ (by decide +kernel)) ggX12_odds_X12_isWay
set_option maxRecDepth 20000 in
theorem ggX12_odds_X12_in : GoodIn wsX12_odds wsX12_in := goodIn_r _ [10] (by decide +kernel) (by decide +kernel)
set_option maxRecDepth 20000 in
theorem gX12_odds_X12_in : GoodIn wsX12_odds (va_wsS RX12 49 yX12_in wsX12_in) := goodIn_app (goodIn_of _ (by decide +kernel)) ggX12_odds_X12_in
set_option maxRecDepth 20000 in
theorem ggX12_odds_X12_oddsOf : GoodIn wsX12_odds wsX12_oddsOf := goodIn_r _ [13, 14, 15, 5, 16, 17, 18, 19, 20, 21, 22, 23, 24, 8, 9, 10] (by decide +kernel) (by decide +kernel)
set_option maxRecDepth 20000 in
theorem gX12_odds_X12_oddsOf : GoodIn wsX12_odds (va_wsS RX12 134 yX12_oddsOf wsX12_oddsOf) := goodIn_app (goodIn_of _ (by decide +kernel)) ggX12_odds_X12_oddsOf
set_option maxRecDepth 20000 in
theorem ggX12_odds_X12_bad : GoodIn wsX12_odds wsX12_bad := goodIn_r _ [28, 29, 30, 31, 32, 33, 34, 35, 36, 37, 38, 39, 40, 41, 42, 43, 44, 45, 46, 47, 48, 49, 50, 51, 52, 53] (by decide +kernel) (by decide +kernel)
set_option maxRecDepth 20000 in
theorem gX12_odds_X12_bad : GoodIn wsX12_odds (wsV RX12 61 RX12 yX12_bad wsX12_bad) := goodIn_app (goodIn_of _ (by decide +kernel)) ggX12_odds_X12_bad
theorem dX12_odds_0 : decode cX12_odds 0 = .ok (.iload_n 1, 1) := by decide +kernel
theorem dX12_odds_1 : decode cX12_odds 1 = .ok (.invokestatic 96, 3) := by decide +kernel
theorem dX12_odds_4 : decode cX12_odds 4 = .ok (.ifCond .eq 25, 3) := by decide +kernel
theorem dX12_odds_7 : decode cX12_odds 7 = .ok (.iload_n 2, 1) := by decide +kernel
theorem dX12_odds_8 : decode cX12_odds 8 = .ok (.i2l, 1) := by decide +kernel
theorem dX12_odds_9 : decode cX12_odds 9 = .ok (.ldc2_w 137, 3) := by decide +kernel
theorem dX12_odds_12 : decode cX12_odds 12 = .ok (.ldc2_w 139, 3) := by decide +kernel
theorem dX12_odds_15 : decode cX12_odds 15 = .ok (.invokestatic 49, 3) := by decide +kernel
theorem dX12_odds_18 : decode cX12_odds 18 = .ok (.ifCond .eq 11, 3) := by decide +kernel
theorem dX12_odds_21 : decode cX12_odds 21 = .ok (.iload_n 1, 1) := by decide +kernel
theorem dX12_odds_22 : decode cX12_odds 22 = .ok (.iload_n 2, 1) := by decide +kernel
theorem dX12_odds_23 : decode cX12_odds 23 = .ok (.invokestatic 134, 3) := by decide +kernel
theorem dX12_odds_26 : decode cX12_odds 26 = .ok (.goto 9, 3) := by decide +kernel
theorem dX12_odds_35 : decode cX12_odds 35 = .ok (.ireturn, 1) := by decide +kernel
theorem dX12_odds_29 : decode cX12_odds 29 = .ok (.aload_n 0, 1) := by decide +kernel
theorem dX12_odds_30 : decode cX12_odds 30 = .ok (.bipush (-2), 2) := by decide +kernel
theorem dX12_odds_32 : decode cX12_odds 32 = .ok (.invokevirtual 61, 3) := by decide +kernel
set_option maxHeartbeats 4000000 in
set_option maxRecDepth 100000 in
theorem m_odds (l : Launch) (dC : Nat → ClassId) (dI : Nat → Nat → Nat) (mo : Nat) (nw : Nat) (kp : Nat) (ik : Nat) (mr : Nat) (la_ : Int64) (lb_ : Int64) (mw : Nat) (lc_ : Int64) (ti_ : Int32) (cb_ : Int32) (ld_ : Int64) (le_ : Int64) (mq : Nat) (mz : Nat) (my : Nat) (sm_ : Int32) (mb : Nat) (bl_ : Int32) (ta_ : Int32) (tl_ : Int32) (tk_ : Int32) (vl_ : Int32) (mx : Nat) (mv : Nat) (cr_ : ClassId) (fr_ : Nat → Int32) (na : Int32) (nb : Int32) (sz : Nat) : Met l yX12_odds wsX12_odds ({ frames := 3, cells := 0, slots := 0, locals := 69 }) (va_Pc [.ref mo, .int na, .int nb] (fun U => U.heap.size = sz ∧ va_P (dC, dI) vwCl [(mo, .inr (12, [.ref nw, .ref kp, .ref ik, .ref mr, .long la_, .long lb_, .ref mw, .long lc_, .int ti_, .int cb_, .long ld_, .long le_, .ref mq, .ref mz, .ref my, .int sm_, .ref mb, .int bl_, .int ta_, .int tl_, .int tk_, .int vl_, .ref mx, .ref mv])), (mr, .inl (cr_, 3, .inl fr_))] U.heap ∧ va_K (dC, dI) vwCl [(cr_, .int)] U ∧ va_D (fun _ => True) [(mo, .inr (12, [.ref nw, .ref kp, .ref ik, .ref mr, .long la_, .long lb_, .ref mw, .long lc_, .int ti_, .int cb_, .long ld_, .long le_, .ref mq, .ref mz, .ref my, .int sm_, .ref mb, .int bl_, .int ta_, .int tl_, .int tk_, .int vl_, .ref mx, .ref mv])), (mr, .inl (cr_, 3, .inl fr_))])) (va_Qi (fun (r : Int32) (_ : Unit) => r = (if 0 ≤ na ∧ na ≤ 5 then (if (-40) ≤ nb ∧ nb ≤ 40 then zN (yS na) nb 20 else (-2)) else (-2))) (fun _ t => ∃ (gr_ : Nat → Int32), va_P (dC, dI) vwCl [(mo, .inr (12, [.ref nw, .ref kp, .ref ik, .ref mr, .long la_, .long lb_, .ref mw, .long lc_, .int ti_, .int cb_, .long ld_, .long le_, .ref mq, .ref mz, .ref my, .int sm_, .ref mb, .int bl_, .int ta_, .int tl_, .int tk_, .int vl_, .ref mx, .ref mv])), (mr, .inl (cr_, 3, .inl gr_))] t.heap ∧ va_K (dC, dI) vwCl [(cr_, .int)] t ∧ va_D (va_A [(mo, .inr (12, [.ref nw, .ref kp, .ref ik, .ref mr, .long la_, .long lb_, .ref mw, .long lc_, .int ti_, .int cb_, .long ld_, .long le_, .ref mq, .ref mz, .ref my, .int sm_, .ref mb, .int bl_, .int ta_, .int tl_, .int tk_, .int vl_, .ref mx, .ref mv])), (mr, .inl (cr_, 3, .inl fr_))] sz) [(mo, .inr (12, [.ref nw, .ref kp, .ref ik, .ref mr, .long la_, .long lb_, .ref mw, .long lc_, .int ti_, .int cb_, .long ld_, .long le_, .ref mq, .ref mz, .ref my, .int sm_, .ref mb, .int bl_, .int ta_, .int tl_, .int tk_, .int vl_, .ref mx, .ref mv])), (mr, .inl (cr_, 3, .inl gr_))]) (va_A [(mo, .inr (12, [.ref nw, .ref kp, .ref ik, .ref mr, .long la_, .long lb_, .ref mw, .long lc_, .int ti_, .int cb_, .long ld_, .long le_, .ref mq, .ref mz, .ref my, .int sm_, .ref mb, .int bl_, .int ta_, .int tl_, .int tk_, .int vl_, .ref mx, .ref mv])), (mr, .inl (cr_, 3, .inl fr_))] sz)) 0 0 (va_A [(mo, .inr (12, [.ref nw, .ref kp, .ref ik, .ref mr, .long la_, .long lb_, .ref mw, .long lc_, .int ti_, .int cb_, .long ld_, .long le_, .ref mq, .ref mz, .ref my, .int sm_, .ref mb, .int bl_, .int ta_, .int tl_, .int tk_, .int vl_, .ref mx, .ref mv])), (mr, .inl (cr_, 3, .inl fr_))] sz) := by
  refine Met.ofW (cc := cX12_odds) (maxL := 3) (ret := (some .int)) (by decide) rfl ?_
  intro p e s m args below meth c s₁ B hml hv
  obtain ⟨rfl, hsz, hP, hK, hD0⟩ := hv
  have hx := B.exec
  have hb := B.bytes
  have hr := B.returns
  have hts := atoms_spec (ws := wsX12_odds) B.pre
  have hown : s.vm.findClass RX12 = some m.cls := findClass_of_methodNamed B.named
  have hlocks := B.notSynchronized
  subst hsz
  have hD := hD0.self (sz := s.heap.size)
  generalize hAe : va_A [(mo, .inr (12, [.ref nw, .ref kp, .ref ik, .ref mr, .long la_, .long lb_, .ref mw, .long lc_, .int ti_, .int cb_, .long ld_, .long le_, .ref mq, .ref mz, .ref my, .int sm_, .ref mb, .int bl_, .int ta_, .int tl_, .int tk_, .int vl_, .ref mx, .ref mv])), (mr, .inl (cr_, 3, .inl fr_))] s.heap.size = A at hD ⊢
  have hA : ∀ q : Nat, s.heap.size ≤ q → A q := fun q h => by rw [← hAe]; exact Or.inr h
  have hS : va_S A s.heap s.heap [] := va_S.rf
  have hP : va_P (dC, dI) vwCl [(mo, .inr (12, [.ref nw, .ref kp, .ref ik, .ref mr, .long la_, .long lb_, .ref mw, .long lc_, .int ti_, .int cb_, .long ld_, .long le_, .ref mq, .ref mz, .ref my, .int sm_, .ref mb, .int bl_, .int ta_, .int tl_, .int tk_, .int vl_, .ref mx, .ref mv])), (mr, .inl (cr_, 3, .inl fr_))] s.heap := hP
  have hl := lv_entry ([.ref mo, .int na, .int nb]) (n := 3) (Nat.le_of_ble_eq_true rfl)
  rw [lg_entry_eq]
  generalize (lg_sl ([.ref mo, .int na, .int nb]) ++ List.replicate (3 - (lg_sl ([.ref mo, .int na, .int nb])).length) Slot.unset).toArray = ls at hl ⊢
  have hl : lv_has ls 3 [(0, .ref mo), (1, .int na), (2, .int nb)] := hl
  refine lv_iload_n hx hb dX12_odds_0 rfl (lv_at hl 1 rfl) ?_
  refine vp_callSi (va_Run.run (va_runS (As := [.int na]) (rest := []) ⟨hx, hb, hml, hown, hts⟩ (m_isWay l dC dI na) (va_cwS 1 hts gX12_odds_X12_isWay rfl rfl rfl (by decide +kernel) ⟨Nat.le_of_ble_eq_true rfl, Nat.le_of_ble_eq_true rfl⟩) ⟨fun a U g mk q => ⟨q.1, trivial⟩, fun U hU hW => ⟨rfl, trivial⟩⟩ rfl rfl hl.1 rfl (lv_room (Nat.le_of_ble_eq_true rfl)) dX12_odds_1 ⟨Nat.le_of_ble_eq_true rfl, Nat.le_of_ble_eq_true rfl⟩)) (fun r_1 hw_2 => ?_)
  by_cases hc_3 : 0 ≤ na ∧ na ≤ 5
  · obtain rfl : 1 = r_1 := (hw_2.trans (if_pos hc_3)).symm
    refine lv_if_eq (tgt := 29) hx hb dX12_odds_4 (by decide) (fun c_4 => ?_) (fun c_4 => ?_)
    · exact absurd c_4 (by decide)
    · refine lv_iload_n hx hb dX12_odds_7 rfl (lv_at hl 2 rfl) ?_
      refine lv_i2l (v := nb.toInt64) hx hb dX12_odds_8 rfl ?_
      refine lv_ldc2 hx hb hown (hts (.constantLong RX12 137 (-40)) (by decide +kernel)) dX12_odds_9 ?_
      refine lv_ldc2 hx hb hown (hts (.constantLong RX12 139 (40)) (by decide +kernel)) dX12_odds_12 ?_
      refine vp_callSi (va_Run.run (va_runS (As := [.long nb.toInt64, .long (-40), .long 40]) (rest := []) ⟨hx, hb, hml, hown, hts⟩ (m_in l dC dI nb.toInt64 (-40) 40) (va_cwS 3 hts gX12_odds_X12_in rfl rfl rfl (by decide +kernel) ⟨Nat.le_of_ble_eq_true rfl, Nat.le_of_ble_eq_true rfl⟩) ⟨fun a U g mk q => ⟨q.1, trivial⟩, fun U hU hW => ⟨rfl, trivial⟩⟩ rfl rfl hl.1 rfl (lv_room (Nat.le_of_ble_eq_true rfl)) dX12_odds_15 ⟨Nat.le_of_ble_eq_true rfl, Nat.le_of_ble_eq_true rfl⟩)) (fun r_5 hw_6 => ?_)
      by_cases hc_7 : (-40) ≤ nb ∧ nb ≤ 40
      · obtain rfl : 1 = r_5 := (hw_6.trans (if_pos ((tz_in64 (by first | rfl | decide) rfl (by first | rfl | decide)).mpr hc_7))).symm
        refine lv_if_eq (tgt := 29) hx hb dX12_odds_18 (by decide) (fun c_8 => ?_) (fun c_8 => ?_)
        · exact absurd c_8 (by decide)
        · refine lv_iload_n hx hb dX12_odds_21 rfl (lv_at hl 1 rfl) ?_
          refine lv_iload_n hx hb dX12_odds_22 rfl (lv_at hl 2 rfl) ?_
          refine vp_callSi (va_Run.run (va_runS (As := [.int na, .int nb]) (rest := []) ⟨hx, hb, hml, hown, hts⟩ (m_oddsOf l dC dI na nb hc_3) (va_cwS 2 hts gX12_odds_X12_oddsOf rfl rfl rfl (by decide +kernel) ⟨Nat.le_of_ble_eq_true rfl, Nat.le_of_ble_eq_true rfl⟩) ⟨fun a U g mk q => ⟨q.1, trivial⟩, fun U hU hW => ⟨rfl, trivial⟩⟩ rfl rfl hl.1 rfl (lv_room (Nat.le_of_ble_eq_true rfl)) dX12_odds_23 ⟨Nat.le_of_ble_eq_true rfl, Nat.le_of_ble_eq_true rfl⟩)) (fun r_9 hw_10 => ?_)
          obtain rfl : (zN (yS na) nb 20) = r_9 := hw_10.symm
          refine lv_goto (tgt := 35) hx hb dX12_odds_26 (by decide) ?_
          have hP9 := hP.sub (ws' := [(mo, .inr (12, [.ref nw, .ref kp, .ref ik, .ref mr, .long la_, .long lb_, .ref mw, .long lc_, .int ti_, .int cb_, .long ld_, .long le_, .ref mq, .ref mz, .ref my, .int sm_, .ref mb, .int bl_, .int ta_, .int tl_, .int tk_, .int vl_, .ref mx, .ref mv])), (mr, .inl (cr_, 3, .inl fr_))]) [0, 1] rfl
          have hD9 := hD.sub (ws' := [(mo, .inr (12, [.ref nw, .ref kp, .ref ik, .ref mr, .long la_, .long lb_, .ref mw, .long lc_, .int ti_, .int cb_, .long ld_, .long le_, .ref mq, .ref mz, .ref my, .int sm_, .ref mb, .int bl_, .int ta_, .int tl_, .int tk_, .int vl_, .ref mx, .ref mv])), (mr, .inl (cr_, 3, .inl fr_))]) [0, 1] (by decide) rfl
          have hK9 := hK.sub (tys' := [(cr_, .int)]) [0] rfl
          exact W.iret (v := (zN (yS na) nb 20)) hx hb hr (fun t ht hW => ⟨⟨(zN (yS na) nb 20), (), rfl, ((if_pos hc_3).trans (if_pos hc_7)).symm, fr_, by rw [ht]; exact hP9, va_K.moved hW.alike hK9, hD9⟩, hS.F ht⟩) hS.2.2 dX12_odds_35
      · obtain rfl : 0 = r_5 := (hw_6.trans (if_neg (fun z => hc_7 ((tz_in64 (by first | rfl | decide) rfl (by first | rfl | decide)).mp z)))).symm
        refine lv_if_eq (tgt := 29) hx hb dX12_odds_18 (by decide) (fun c_11 => ?_) (fun c_11 => ?_)
        · refine lv_aload_n hx hb dX12_odds_29 rfl (lv_at hl 0 rfl) ?_
          refine lv_bipush (v := (-2)) hx hb dX12_odds_30 (by decide) ?_
          have hPc := hP.sub (ws' := [(mo, .inr (12, [.ref nw, .ref kp, .ref ik, .ref mr, .long la_, .long lb_, .ref mw, .long lc_, .int ti_, .int cb_, .long ld_, .long le_, .ref mq, .ref mz, .ref my, .int sm_, .ref mb, .int bl_, .int ta_, .int tl_, .int tk_, .int vl_, .ref mx, .ref mv])), (mr, .inl (cr_, 3, .inl fr_))]) [0, 1] rfl
          have hDc := hD.sub (ws' := [(mo, .inr (12, [.ref nw, .ref kp, .ref ik, .ref mr, .long la_, .long lb_, .ref mw, .long lc_, .int ti_, .int cb_, .long ld_, .long le_, .ref mq, .ref mz, .ref my, .int sm_, .ref mb, .int bl_, .int ta_, .int tl_, .int tk_, .int vl_, .ref mx, .ref mv])), (mr, .inl (cr_, 3, .inl fr_))]) [0, 1] (by decide) rfl
          have hKc := hK.sub (tys' := [(cr_, .int)]) [0] rfl
          have hFc := va_free (wc := [(mo, .inr (12, [.ref nw, .ref kp, .ref ik, .ref mr, .long la_, .long lb_, .ref mw, .long lc_, .int ti_, .int cb_, .long ld_, .long le_, .ref mq, .ref mz, .ref my, .int sm_, .ref mb, .int bl_, .int ta_, .int tl_, .int tk_, .int vl_, .ref mx, .ref mv])), (mr, .inl (cr_, 3, .inl fr_))]) hD hS hA [0, 1] rfl
          refine va_calli (va_runV (As := [.int (-2)]) (rest := []) ⟨hx, hb, hml, hown, hts⟩ (m_bad l dC dI mo nw kp ik mr la_ lb_ mw lc_ ti_ cb_ ld_ le_ mq mz my sm_ mb bl_ ta_ tl_ tk_ vl_ mx mv cr_ fr_ (-2) s.heap.size) (cwV 1 hts gX12_odds_X12_bad rfl rfl rfl (by decide +kernel) ⟨Nat.le_of_ble_eq_true rfl, Nat.le_of_ble_eq_true rfl⟩) ⟨fun a U g mk q => by obtain ⟨q0, q1, qP, qK, qD⟩ := q; exact ⟨q0, q1, qP, va_K.moved (u := U) (U := U.calling g mk a) (Vm.Alike.refl U.vm) qK, qD⟩, va_recv hK hP (ci := 12) (q0 := 0) rfl rfl, fun U hU hW => ⟨rfl, by rw [hU], by rw [hU]; exact hPc, va_K.moved hW.alike hKc, hDc.weaken (fun _ _ _ _ => trivial)⟩⟩ rfl rfl hl.1 rfl (lv_room (Nat.le_of_ble_eq_true rfl)) dX12_odds_32 ⟨Nat.le_of_ble_eq_true rfl, Nat.le_of_ble_eq_true rfl⟩) hS (fun q _ h => hFc q h) hFc (fun r_12 u_ t H1 locs ht hvm hw_13 hB hz1 hk1 hS => ?_)
          obtain ⟨gr__14, hP1, hK1, hD1⟩ := hB
          rw [ht] at hP1
          have hK1 := va_K.moved hvm.symm hK1
          obtain ⟨hP, hD⟩ := va_join (wr := []) (w1 := [(mo, .inr (12, [.ref nw, .ref kp, .ref ik, .ref mr, .long la_, .long lb_, .ref mw, .long lc_, .int ti_, .int cb_, .long ld_, .long le_, .ref mq, .ref mz, .ref my, .int sm_, .ref mb, .int bl_, .int ta_, .int tl_, .int tk_, .int vl_, .ref mx, .ref mv])), (mr, .inl (cr_, 3, .inl gr__14))]) hP hD [0, 1] [] rfl rfl (by decide) (by decide) hk1 hFc hP1 hD1
          generalize H1 = H at hP hS ⊢
          have hP : va_P (dC, dI) vwCl [(mo, .inr (12, [.ref nw, .ref kp, .ref ik, .ref mr, .long la_, .long lb_, .ref mw, .long lc_, .int ti_, .int cb_, .long ld_, .long le_, .ref mq, .ref mz, .ref my, .int sm_, .ref mb, .int bl_, .int ta_, .int tl_, .int tk_, .int vl_, .ref mx, .ref mv])), (mr, .inl (cr_, 3, .inl gr__14))] H := hP
          have hD : va_D A [(mo, .inr (12, [.ref nw, .ref kp, .ref ik, .ref mr, .long la_, .long lb_, .ref mw, .long lc_, .int ti_, .int cb_, .long ld_, .long le_, .ref mq, .ref mz, .ref my, .int sm_, .ref mb, .int bl_, .int ta_, .int tl_, .int tk_, .int vl_, .ref mx, .ref mv])), (mr, .inl (cr_, 3, .inl gr__14))] := hD
          obtain rfl : (-2) = r_12 := hw_13.symm
          have hP9 := hP.sub (ws' := [(mo, .inr (12, [.ref nw, .ref kp, .ref ik, .ref mr, .long la_, .long lb_, .ref mw, .long lc_, .int ti_, .int cb_, .long ld_, .long le_, .ref mq, .ref mz, .ref my, .int sm_, .ref mb, .int bl_, .int ta_, .int tl_, .int tk_, .int vl_, .ref mx, .ref mv])), (mr, .inl (cr_, 3, .inl gr__14))]) [0, 1] rfl
          have hD9 := hD.sub (ws' := [(mo, .inr (12, [.ref nw, .ref kp, .ref ik, .ref mr, .long la_, .long lb_, .ref mw, .long lc_, .int ti_, .int cb_, .long ld_, .long le_, .ref mq, .ref mz, .ref my, .int sm_, .ref mb, .int bl_, .int ta_, .int tl_, .int tk_, .int vl_, .ref mx, .ref mv])), (mr, .inl (cr_, 3, .inl gr__14))]) [0, 1] (by decide) rfl
          have hK9 := hK.sub (tys' := [(cr_, .int)]) [0] rfl
          exact W.iret (v := (-2)) hx hb hr (fun t ht hW => ⟨⟨(-2), (), rfl, ((if_pos hc_3).trans (if_neg hc_7)).symm, gr__14, by rw [ht]; exact hP9, va_K.moved hW.alike hK9, hD9⟩, hS.F ht⟩) hS.2.2 dX12_odds_35
        · exact absurd c_11 (by decide)
  · obtain rfl : 0 = r_1 := (hw_2.trans (if_neg hc_3)).symm
    refine lv_if_eq (tgt := 29) hx hb dX12_odds_4 (by decide) (fun c_15 => ?_) (fun c_15 => ?_)
    · refine lv_aload_n hx hb dX12_odds_29 rfl (lv_at hl 0 rfl) ?_
      refine lv_bipush (v := (-2)) hx hb dX12_odds_30 (by decide) ?_
      have hPc := hP.sub (ws' := [(mo, .inr (12, [.ref nw, .ref kp, .ref ik, .ref mr, .long la_, .long lb_, .ref mw, .long lc_, .int ti_, .int cb_, .long ld_, .long le_, .ref mq, .ref mz, .ref my, .int sm_, .ref mb, .int bl_, .int ta_, .int tl_, .int tk_, .int vl_, .ref mx, .ref mv])), (mr, .inl (cr_, 3, .inl fr_))]) [0, 1] rfl
      have hDc := hD.sub (ws' := [(mo, .inr (12, [.ref nw, .ref kp, .ref ik, .ref mr, .long la_, .long lb_, .ref mw, .long lc_, .int ti_, .int cb_, .long ld_, .long le_, .ref mq, .ref mz, .ref my, .int sm_, .ref mb, .int bl_, .int ta_, .int tl_, .int tk_, .int vl_, .ref mx, .ref mv])), (mr, .inl (cr_, 3, .inl fr_))]) [0, 1] (by decide) rfl
      have hKc := hK.sub (tys' := [(cr_, .int)]) [0] rfl
      have hFc := va_free (wc := [(mo, .inr (12, [.ref nw, .ref kp, .ref ik, .ref mr, .long la_, .long lb_, .ref mw, .long lc_, .int ti_, .int cb_, .long ld_, .long le_, .ref mq, .ref mz, .ref my, .int sm_, .ref mb, .int bl_, .int ta_, .int tl_, .int tk_, .int vl_, .ref mx, .ref mv])), (mr, .inl (cr_, 3, .inl fr_))]) hD hS hA [0, 1] rfl
      refine va_calli (va_runV (As := [.int (-2)]) (rest := []) ⟨hx, hb, hml, hown, hts⟩ (m_bad l dC dI mo nw kp ik mr la_ lb_ mw lc_ ti_ cb_ ld_ le_ mq mz my sm_ mb bl_ ta_ tl_ tk_ vl_ mx mv cr_ fr_ (-2) s.heap.size) (cwV 1 hts gX12_odds_X12_bad rfl rfl rfl (by decide +kernel) ⟨Nat.le_of_ble_eq_true rfl, Nat.le_of_ble_eq_true rfl⟩) ⟨fun a U g mk q => by obtain ⟨q0, q1, qP, qK, qD⟩ := q; exact ⟨q0, q1, qP, va_K.moved (u := U) (U := U.calling g mk a) (Vm.Alike.refl U.vm) qK, qD⟩, va_recv hK hP (ci := 12) (q0 := 0) rfl rfl, fun U hU hW => ⟨rfl, by rw [hU], by rw [hU]; exact hPc, va_K.moved hW.alike hKc, hDc.weaken (fun _ _ _ _ => trivial)⟩⟩ rfl rfl hl.1 rfl (lv_room (Nat.le_of_ble_eq_true rfl)) dX12_odds_32 ⟨Nat.le_of_ble_eq_true rfl, Nat.le_of_ble_eq_true rfl⟩) hS (fun q _ h => hFc q h) hFc (fun r_16 u_ t H1 locs ht hvm hw_17 hB hz1 hk1 hS => ?_)
      obtain ⟨gr__18, hP1, hK1, hD1⟩ := hB
      rw [ht] at hP1
      have hK1 := va_K.moved hvm.symm hK1
      obtain ⟨hP, hD⟩ := va_join (wr := []) (w1 := [(mo, .inr (12, [.ref nw, .ref kp, .ref ik, .ref mr, .long la_, .long lb_, .ref mw, .long lc_, .int ti_, .int cb_, .long ld_, .long le_, .ref mq, .ref mz, .ref my, .int sm_, .ref mb, .int bl_, .int ta_, .int tl_, .int tk_, .int vl_, .ref mx, .ref mv])), (mr, .inl (cr_, 3, .inl gr__18))]) hP hD [0, 1] [] rfl rfl (by decide) (by decide) hk1 hFc hP1 hD1
      generalize H1 = H at hP hS ⊢
      have hP : va_P (dC, dI) vwCl [(mo, .inr (12, [.ref nw, .ref kp, .ref ik, .ref mr, .long la_, .long lb_, .ref mw, .long lc_, .int ti_, .int cb_, .long ld_, .long le_, .ref mq, .ref mz, .ref my, .int sm_, .ref mb, .int bl_, .int ta_, .int tl_, .int tk_, .int vl_, .ref mx, .ref mv])), (mr, .inl (cr_, 3, .inl gr__18))] H := hP
      have hD : va_D A [(mo, .inr (12, [.ref nw, .ref kp, .ref ik, .ref mr, .long la_, .long lb_, .ref mw, .long lc_, .int ti_, .int cb_, .long ld_, .long le_, .ref mq, .ref mz, .ref my, .int sm_, .ref mb, .int bl_, .int ta_, .int tl_, .int tk_, .int vl_, .ref mx, .ref mv])), (mr, .inl (cr_, 3, .inl gr__18))] := hD
      obtain rfl : (-2) = r_16 := hw_17.symm
      have hP9 := hP.sub (ws' := [(mo, .inr (12, [.ref nw, .ref kp, .ref ik, .ref mr, .long la_, .long lb_, .ref mw, .long lc_, .int ti_, .int cb_, .long ld_, .long le_, .ref mq, .ref mz, .ref my, .int sm_, .ref mb, .int bl_, .int ta_, .int tl_, .int tk_, .int vl_, .ref mx, .ref mv])), (mr, .inl (cr_, 3, .inl gr__18))]) [0, 1] rfl
      have hD9 := hD.sub (ws' := [(mo, .inr (12, [.ref nw, .ref kp, .ref ik, .ref mr, .long la_, .long lb_, .ref mw, .long lc_, .int ti_, .int cb_, .long ld_, .long le_, .ref mq, .ref mz, .ref my, .int sm_, .ref mb, .int bl_, .int ta_, .int tl_, .int tk_, .int vl_, .ref mx, .ref mv])), (mr, .inl (cr_, 3, .inl gr__18))]) [0, 1] (by decide) rfl
      have hK9 := hK.sub (tys' := [(cr_, .int)]) [0] rfl
      exact W.iret (v := (-2)) hx hb hr (fun t ht hW => ⟨⟨(-2), (), rfl, (if_neg hc_3).symm, gr__18, by rw [ht]; exact hP9, va_K.moved hW.alike hK9, hD9⟩, hS.F ht⟩) hS.2.2 dX12_odds_35
    · exact absurd c_15 (by decide)
set_option maxRecDepth 20000 in
theorem ggX12_drawn_X12_isWay : GoodIn wsX12_drawn wsX12_isWay := goodIn_r _ [14, 15, 16, 17, 13, 18] (by decide +kernel) (by decide +kernel)
set_option maxRecDepth 20000 in
theorem gX12_drawn_X12_isWay : GoodIn wsX12_drawn (va_wsS RX12 96 yX12_isWay wsX12_isWay) := goodIn_app (goodIn_of _ (by decide +kernel)) ggX12_drawn_X12_isWay
set_option maxRecDepth 20000 in
theorem ggX12_drawn_X12_in : GoodIn wsX12_drawn wsX12_in := goodIn_r _ [18] (by decide +kernel) (by decide +kernel)
set_option maxRecDepth 20000 in
theorem gX12_drawn_X12_in : GoodIn wsX12_drawn (va_wsS RX12 49 yX12_in wsX12_in) := goodIn_app (goodIn_of _ (by decide +kernel)) ggX12_drawn_X12_in
set_option maxRecDepth 20000 in
theorem ggX12_drawn_X12_offBy : GoodIn wsX12_drawn wsX12_offBy := goodIn_r _ [26, 27, 28, 29, 30, 13, 31, 32, 33, 34, 16, 17, 18] (by decide +kernel) (by decide +kernel)
set_option maxRecDepth 20000 in
theorem gX12_drawn_X12_offBy : GoodIn wsX12_drawn (va_wsS RX12 126 yX12_offBy wsX12_offBy) := goodIn_app (goodIn_of _ (by decide +kernel)) ggX12_drawn_X12_offBy
set_option maxRecDepth 20000 in
theorem ggX12_drawn_X12_bad : GoodIn wsX12_drawn wsX12_bad := goodIn_r _ [22, 23, 35, 36, 37, 38, 39, 40, 41, 42, 43, 44, 45, 46, 47, 48, 49, 50, 51, 52, 53, 54, 55, 56, 57, 58] (by decide +kernel) (by decide +kernel)
set_option maxRecDepth 20000 in
theorem gX12_drawn_X12_bad : GoodIn wsX12_drawn (wsV RX12 61 RX12 yX12_bad wsX12_bad) := goodIn_app (goodIn_of _ (by decide +kernel)) ggX12_drawn_X12_bad
theorem dX12_drawn_0 : decode cX12_drawn 0 = .ok (.iload_n 1, 1) := by decide +kernel
theorem dX12_drawn_1 : decode cX12_drawn 1 = .ok (.invokestatic 96, 3) := by decide +kernel
theorem dX12_drawn_4 : decode cX12_drawn 4 = .ok (.ifCond .eq 55, 3) := by decide +kernel
theorem dX12_drawn_7 : decode cX12_drawn 7 = .ok (.iload_n 2, 1) := by decide +kernel
theorem dX12_drawn_8 : decode cX12_drawn 8 = .ok (.i2l, 1) := by decide +kernel
theorem dX12_drawn_9 : decode cX12_drawn 9 = .ok (.ldc2_w 99, 3) := by decide +kernel
theorem dX12_drawn_12 : decode cX12_drawn 12 = .ok (.ldc2_w 101, 3) := by decide +kernel
theorem dX12_drawn_15 : decode cX12_drawn 15 = .ok (.invokestatic 49, 3) := by decide +kernel
theorem dX12_drawn_18 : decode cX12_drawn 18 = .ok (.ifCond .eq 41, 3) := by decide +kernel
theorem dX12_drawn_21 : decode cX12_drawn 21 = .ok (.iload_n 3, 1) := by decide +kernel
theorem dX12_drawn_22 : decode cX12_drawn 22 = .ok (.i2l, 1) := by decide +kernel
theorem dX12_drawn_23 : decode cX12_drawn 23 = .ok (.lconst 0, 1) := by decide +kernel
theorem dX12_drawn_24 : decode cX12_drawn 24 = .ok (.ldc2_w 237, 3) := by decide +kernel
theorem dX12_drawn_27 : decode cX12_drawn 27 = .ok (.invokestatic 49, 3) := by decide +kernel
theorem dX12_drawn_30 : decode cX12_drawn 30 = .ok (.ifCond .eq 29, 3) := by decide +kernel
theorem dX12_drawn_33 : decode cX12_drawn 33 = .ok (.iload 4, 2) := by decide +kernel
theorem dX12_drawn_35 : decode cX12_drawn 35 = .ok (.i2l, 1) := by decide +kernel
theorem dX12_drawn_36 : decode cX12_drawn 36 = .ok (.lconst 0, 1) := by decide +kernel
theorem dX12_drawn_37 : decode cX12_drawn 37 = .ok (.ldc2_w 239, 3) := by decide +kernel
theorem dX12_drawn_40 : decode cX12_drawn 40 = .ok (.invokestatic 49, 3) := by decide +kernel
theorem dX12_drawn_43 : decode cX12_drawn 43 = .ok (.ifCond .eq 16, 3) := by decide +kernel
theorem dX12_drawn_46 : decode cX12_drawn 46 = .ok (.iload 5, 2) := by decide +kernel
theorem dX12_drawn_48 : decode cX12_drawn 48 = .ok (.i2l, 1) := by decide +kernel
theorem dX12_drawn_49 : decode cX12_drawn 49 = .ok (.lconst 0, 1) := by decide +kernel
theorem dX12_drawn_50 : decode cX12_drawn 50 = .ok (.ldc2_w 241, 3) := by decide +kernel
theorem dX12_drawn_53 : decode cX12_drawn 53 = .ok (.invokestatic 49, 3) := by decide +kernel
theorem dX12_drawn_56 : decode cX12_drawn 56 = .ok (.ifCond .ne 10, 3) := by decide +kernel
theorem dX12_drawn_66 : decode cX12_drawn 66 = .ok (.iload 4, 2) := by decide +kernel
theorem dX12_drawn_68 : decode cX12_drawn 68 = .ok (.i2l, 1) := by decide +kernel
theorem dX12_drawn_69 : decode cX12_drawn 69 = .ok (.lstore 6, 2) := by decide +kernel
theorem dX12_drawn_71 : decode cX12_drawn 71 = .ok (.iconst 0, 1) := by decide +kernel
theorem dX12_drawn_72 : decode cX12_drawn 72 = .ok (.istore 8, 2) := by decide +kernel
theorem dX12_drawn_74 : decode cX12_drawn 74 = .ok (.iconst (-1), 1) := by decide +kernel
theorem dX12_drawn_75 : decode cX12_drawn 75 = .ok (.istore 9, 2) := by decide +kernel
theorem dX12_drawn_77 : decode cX12_drawn 77 = .ok (.iconst (-1), 1) := by decide +kernel
theorem dX12_drawn_78 : decode cX12_drawn 78 = .ok (.istore 10, 2) := by decide +kernel
theorem dX12_drawn_80 : decode cX12_drawn 80 = .ok (.iconst 0, 1) := by decide +kernel
theorem dX12_drawn_81 : decode cX12_drawn 81 = .ok (.istore 11, 2) := by decide +kernel
theorem dX12_drawn_83 : decode cX12_drawn 83 = .ok (.iload 11, 2) := by decide +kernel
theorem dX12_drawn_85 : decode cX12_drawn 85 = .ok (.iload_n 3, 1) := by decide +kernel
theorem dX12_drawn_86 : decode cX12_drawn 86 = .ok (.if_icmp .ge 97, 3) := by decide +kernel
theorem dX12_drawn_89 : decode cX12_drawn 89 = .ok (.lload 6, 2) := by decide +kernel
theorem dX12_drawn_91 : decode cX12_drawn 91 = .ok (.ldc2_w 243, 3) := by decide +kernel
theorem dX12_drawn_94 : decode cX12_drawn 94 = .ok (.lmul, 1) := by decide +kernel
theorem dX12_drawn_95 : decode cX12_drawn 95 = .ok (.ldc2_w 245, 3) := by decide +kernel
theorem dX12_drawn_98 : decode cX12_drawn 98 = .ok (.ladd, 1) := by decide +kernel
theorem dX12_drawn_99 : decode cX12_drawn 99 = .ok (.ldc2_w 247, 3) := by decide +kernel
theorem dX12_drawn_102 : decode cX12_drawn 102 = .ok (.lrem, 1) := by decide +kernel
theorem dX12_drawn_103 : decode cX12_drawn 103 = .ok (.lstore 6, 2) := by decide +kernel
theorem dX12_drawn_105 : decode cX12_drawn 105 = .ok (.iload_n 2, 1) := by decide +kernel
theorem dX12_drawn_106 : decode cX12_drawn 106 = .ok (.iload_n 1, 1) := by decide +kernel
theorem dX12_drawn_107 : decode cX12_drawn 107 = .ok (.lload 6, 2) := by decide +kernel
theorem dX12_drawn_109 : decode cX12_drawn 109 = .ok (.ldc2_w 249, 3) := by decide +kernel
theorem dX12_drawn_112 : decode cX12_drawn 112 = .ok (.ldiv, 1) := by decide +kernel
theorem dX12_drawn_113 : decode cX12_drawn 113 = .ok (.ldc2_w 206, 3) := by decide +kernel
theorem dX12_drawn_116 : decode cX12_drawn 116 = .ok (.lrem, 1) := by decide +kernel
theorem dX12_drawn_117 : decode cX12_drawn 117 = .ok (.l2i, 1) := by decide +kernel
theorem dX12_drawn_118 : decode cX12_drawn 118 = .ok (.invokestatic 126, 3) := by decide +kernel
theorem dX12_drawn_121 : decode cX12_drawn 121 = .ok (.iadd, 1) := by decide +kernel
theorem dX12_drawn_122 : decode cX12_drawn 122 = .ok (.istore 12, 2) := by decide +kernel
theorem dX12_drawn_124 : decode cX12_drawn 124 = .ok (.iload 8, 2) := by decide +kernel
theorem dX12_drawn_126 : decode cX12_drawn 126 = .ok (.iload 12, 2) := by decide +kernel
theorem dX12_drawn_128 : decode cX12_drawn 128 = .ok (.iload_n 2, 1) := by decide +kernel
theorem dX12_drawn_129 : decode cX12_drawn 129 = .ok (.if_icmp .ne 7, 3) := by decide +kernel
theorem dX12_drawn_136 : decode cX12_drawn 136 = .ok (.iconst 0, 1) := by decide +kernel
theorem dX12_drawn_137 : decode cX12_drawn 137 = .ok (.iadd, 1) := by decide +kernel
theorem dX12_drawn_138 : decode cX12_drawn 138 = .ok (.istore 8, 2) := by decide +kernel
theorem dX12_drawn_140 : decode cX12_drawn 140 = .ok (.iload 11, 2) := by decide +kernel
theorem dX12_drawn_142 : decode cX12_drawn 142 = .ok (.ifCond .eq 10, 3) := by decide +kernel
theorem dX12_drawn_152 : decode cX12_drawn 152 = .ok (.iload 12, 2) := by decide +kernel
theorem dX12_drawn_154 : decode cX12_drawn 154 = .ok (.goto 5, 3) := by decide +kernel
theorem dX12_drawn_159 : decode cX12_drawn 159 = .ok (.istore 9, 2) := by decide +kernel
theorem dX12_drawn_161 : decode cX12_drawn 161 = .ok (.iload 12, 2) := by decide +kernel
theorem dX12_drawn_163 : decode cX12_drawn 163 = .ok (.iload 10, 2) := by decide +kernel
theorem dX12_drawn_165 : decode cX12_drawn 165 = .ok (.if_icmp .le 8, 3) := by decide +kernel
theorem dX12_drawn_173 : decode cX12_drawn 173 = .ok (.iload 10, 2) := by decide +kernel
theorem dX12_drawn_175 : decode cX12_drawn 175 = .ok (.istore 10, 2) := by decide +kernel
theorem dX12_drawn_177 : decode cX12_drawn 177 = .ok (.iinc 11 1, 3) := by decide +kernel
theorem dX12_drawn_180 : decode cX12_drawn 180 = .ok (.goto (-97), 3) := by decide +kernel
theorem dX12_drawn_168 : decode cX12_drawn 168 = .ok (.iload 12, 2) := by decide +kernel
theorem dX12_drawn_170 : decode cX12_drawn 170 = .ok (.goto 5, 3) := by decide +kernel
theorem dX12_drawn_132 : decode cX12_drawn 132 = .ok (.iconst 1, 1) := by decide +kernel
theorem dX12_drawn_133 : decode cX12_drawn 133 = .ok (.goto 4, 3) := by decide +kernel
theorem dX12_drawn_145 : decode cX12_drawn 145 = .ok (.iload 12, 2) := by decide +kernel
theorem dX12_drawn_147 : decode cX12_drawn 147 = .ok (.iload 9, 2) := by decide +kernel
theorem dX12_drawn_149 : decode cX12_drawn 149 = .ok (.if_icmp .ge 8, 3) := by decide +kernel
theorem dX12_drawn_157 : decode cX12_drawn 157 = .ok (.iload 9, 2) := by decide +kernel
theorem dX12_drawn_183 : decode cX12_drawn 183 = .ok (.iload 5, 2) := by decide +kernel
theorem dX12_drawn_185 : decode cX12_drawn 185 = .ok (.ifCond .ne 8, 3) := by decide +kernel
theorem dX12_drawn_193 : decode cX12_drawn 193 = .ok (.iload 5, 2) := by decide +kernel
theorem dX12_drawn_195 : decode cX12_drawn 195 = .ok (.iconst 1, 1) := by decide +kernel
theorem dX12_drawn_196 : decode cX12_drawn 196 = .ok (.if_icmp .ne 8, 3) := by decide +kernel
theorem dX12_drawn_204 : decode cX12_drawn 204 = .ok (.iload 10, 2) := by decide +kernel
theorem dX12_drawn_206 : decode cX12_drawn 206 = .ok (.ireturn, 1) := by decide +kernel
theorem dX12_drawn_199 : decode cX12_drawn 199 = .ok (.iload 9, 2) := by decide +kernel
theorem dX12_drawn_201 : decode cX12_drawn 201 = .ok (.goto 5, 3) := by decide +kernel
theorem dX12_drawn_188 : decode cX12_drawn 188 = .ok (.iload 8, 2) := by decide +kernel
theorem dX12_drawn_190 : decode cX12_drawn 190 = .ok (.goto 16, 3) := by decide +kernel
theorem dX12_drawn_59 : decode cX12_drawn 59 = .ok (.aload_n 0, 1) := by decide +kernel
theorem dX12_drawn_60 : decode cX12_drawn 60 = .ok (.bipush (-2), 2) := by decide +kernel
theorem dX12_drawn_62 : decode cX12_drawn 62 = .ok (.invokevirtual 61, 3) := by decide +kernel
theorem dX12_drawn_65 : decode cX12_drawn 65 = .ok (.ireturn, 1) := by decide +kernel
set_option maxHeartbeats 4000000 in
set_option maxRecDepth 100000 in
theorem m_drawn (l : Launch) (dC : Nat → ClassId) (dI : Nat → Nat → Nat) (mo : Nat) (nw : Nat) (kp : Nat) (ik : Nat) (mr : Nat) (la_ : Int64) (lb_ : Int64) (mw : Nat) (lc_ : Int64) (ti_ : Int32) (cb_ : Int32) (ld_ : Int64) (le_ : Int64) (mq : Nat) (mz : Nat) (my : Nat) (sm_ : Int32) (mb : Nat) (bl_ : Int32) (ta_ : Int32) (tl_ : Int32) (tk_ : Int32) (vl_ : Int32) (mx : Nat) (mv : Nat) (cr_ : ClassId) (fr_ : Nat → Int32) (na : Int32) (nb : Int32) (nc : Int32) (nd : Int32) (ne : Int32) (sz : Nat) : Met l yX12_drawn wsX12_drawn ({ frames := 2, cells := 0, slots := 0, locals := 46 }) (va_Pc [.ref mo, .int na, .int nb, .int nc, .int nd, .int ne] (fun U => U.heap.size = sz ∧ va_P (dC, dI) vwCl [(mo, .inr (12, [.ref nw, .ref kp, .ref ik, .ref mr, .long la_, .long lb_, .ref mw, .long lc_, .int ti_, .int cb_, .long ld_, .long le_, .ref mq, .ref mz, .ref my, .int sm_, .ref mb, .int bl_, .int ta_, .int tl_, .int tk_, .int vl_, .ref mx, .ref mv])), (mr, .inl (cr_, 3, .inl fr_))] U.heap ∧ va_K (dC, dI) vwCl [(cr_, .int)] U ∧ va_D (fun _ => True) [(mo, .inr (12, [.ref nw, .ref kp, .ref ik, .ref mr, .long la_, .long lb_, .ref mw, .long lc_, .int ti_, .int cb_, .long ld_, .long le_, .ref mq, .ref mz, .ref my, .int sm_, .ref mb, .int bl_, .int ta_, .int tl_, .int tk_, .int vl_, .ref mx, .ref mv])), (mr, .inl (cr_, 3, .inl fr_))])) (va_Qi (fun (r : Int32) (_ : Unit) => True) (fun _ t => ∃ (gr_ : Nat → Int32), va_P (dC, dI) vwCl [(mo, .inr (12, [.ref nw, .ref kp, .ref ik, .ref mr, .long la_, .long lb_, .ref mw, .long lc_, .int ti_, .int cb_, .long ld_, .long le_, .ref mq, .ref mz, .ref my, .int sm_, .ref mb, .int bl_, .int ta_, .int tl_, .int tk_, .int vl_, .ref mx, .ref mv])), (mr, .inl (cr_, 3, .inl gr_))] t.heap ∧ va_K (dC, dI) vwCl [(cr_, .int)] t ∧ va_D (va_A [(mo, .inr (12, [.ref nw, .ref kp, .ref ik, .ref mr, .long la_, .long lb_, .ref mw, .long lc_, .int ti_, .int cb_, .long ld_, .long le_, .ref mq, .ref mz, .ref my, .int sm_, .ref mb, .int bl_, .int ta_, .int tl_, .int tk_, .int vl_, .ref mx, .ref mv])), (mr, .inl (cr_, 3, .inl fr_))] sz) [(mo, .inr (12, [.ref nw, .ref kp, .ref ik, .ref mr, .long la_, .long lb_, .ref mw, .long lc_, .int ti_, .int cb_, .long ld_, .long le_, .ref mq, .ref mz, .ref my, .int sm_, .ref mb, .int bl_, .int ta_, .int tl_, .int tk_, .int vl_, .ref mx, .ref mv])), (mr, .inl (cr_, 3, .inl gr_))]) (va_A [(mo, .inr (12, [.ref nw, .ref kp, .ref ik, .ref mr, .long la_, .long lb_, .ref mw, .long lc_, .int ti_, .int cb_, .long ld_, .long le_, .ref mq, .ref mz, .ref my, .int sm_, .ref mb, .int bl_, .int ta_, .int tl_, .int tk_, .int vl_, .ref mx, .ref mv])), (mr, .inl (cr_, 3, .inl fr_))] sz)) 0 0 (va_A [(mo, .inr (12, [.ref nw, .ref kp, .ref ik, .ref mr, .long la_, .long lb_, .ref mw, .long lc_, .int ti_, .int cb_, .long ld_, .long le_, .ref mq, .ref mz, .ref my, .int sm_, .ref mb, .int bl_, .int ta_, .int tl_, .int tk_, .int vl_, .ref mx, .ref mv])), (mr, .inl (cr_, 3, .inl fr_))] sz) := by
  refine Met.ofW (cc := cX12_drawn) (maxL := 13) (ret := (some .int)) (by decide) rfl ?_
  intro p e s m args below meth c s₁ B hml hv
  obtain ⟨rfl, hsz, hP, hK, hD0⟩ := hv
  have hx := B.exec
  have hb := B.bytes
  have hr := B.returns
  have hts := atoms_spec (ws := wsX12_drawn) B.pre
  have hown : s.vm.findClass RX12 = some m.cls := findClass_of_methodNamed B.named
  have hlocks := B.notSynchronized
  subst hsz
  have hD := hD0.self (sz := s.heap.size)
  generalize hAe : va_A [(mo, .inr (12, [.ref nw, .ref kp, .ref ik, .ref mr, .long la_, .long lb_, .ref mw, .long lc_, .int ti_, .int cb_, .long ld_, .long le_, .ref mq, .ref mz, .ref my, .int sm_, .ref mb, .int bl_, .int ta_, .int tl_, .int tk_, .int vl_, .ref mx, .ref mv])), (mr, .inl (cr_, 3, .inl fr_))] s.heap.size = A at hD ⊢
  have hA : ∀ q : Nat, s.heap.size ≤ q → A q := fun q h => by rw [← hAe]; exact Or.inr h
  have hS : va_S A s.heap s.heap [] := va_S.rf
  have hP : va_P (dC, dI) vwCl [(mo, .inr (12, [.ref nw, .ref kp, .ref ik, .ref mr, .long la_, .long lb_, .ref mw, .long lc_, .int ti_, .int cb_, .long ld_, .long le_, .ref mq, .ref mz, .ref my, .int sm_, .ref mb, .int bl_, .int ta_, .int tl_, .int tk_, .int vl_, .ref mx, .ref mv])), (mr, .inl (cr_, 3, .inl fr_))] s.heap := hP
  have hl := lv_entry ([.ref mo, .int na, .int nb, .int nc, .int nd, .int ne]) (n := 13) (Nat.le_of_ble_eq_true rfl)
  rw [lg_entry_eq]
  generalize (lg_sl ([.ref mo, .int na, .int nb, .int nc, .int nd, .int ne]) ++ List.replicate (13 - (lg_sl ([.ref mo, .int na, .int nb, .int nc, .int nd, .int ne])).length) Slot.unset).toArray = ls at hl ⊢
  have hl : lv_has ls 13 [(0, .ref mo), (1, .int na), (2, .int nb), (3, .int nc), (4, .int nd), (5, .int ne)] := hl
  refine lv_iload_n hx hb dX12_drawn_0 rfl (lv_at hl 1 rfl) ?_
  refine vp_callSi (va_Run.run (va_runS (As := [.int na]) (rest := []) ⟨hx, hb, hml, hown, hts⟩ (m_isWay l dC dI na) (va_cwS 1 hts gX12_drawn_X12_isWay rfl rfl rfl (by decide +kernel) ⟨Nat.le_of_ble_eq_true rfl, Nat.le_of_ble_eq_true rfl⟩) ⟨fun a U g mk q => ⟨q.1, trivial⟩, fun U hU hW => ⟨rfl, trivial⟩⟩ rfl rfl hl.1 rfl (lv_room (Nat.le_of_ble_eq_true rfl)) dX12_drawn_1 ⟨Nat.le_of_ble_eq_true rfl, Nat.le_of_ble_eq_true rfl⟩)) (fun r_1 hw_2 => ?_)
  by_cases hc_3 : 0 ≤ na ∧ na ≤ 5
  · obtain rfl : 1 = r_1 := (hw_2.trans (if_pos hc_3)).symm
    refine lv_if_eq (tgt := 59) hx hb dX12_drawn_4 (by decide) (fun c_4 => ?_) (fun c_4 => ?_)
    · exact absurd c_4 (by decide)
    · refine lv_iload_n hx hb dX12_drawn_7 rfl (lv_at hl 2 rfl) ?_
      refine lv_i2l (v := nb.toInt64) hx hb dX12_drawn_8 rfl ?_
      refine lv_ldc2 hx hb hown (hts (.constantLong RX12 99 (80)) (by decide +kernel)) dX12_drawn_9 ?_
      refine lv_ldc2 hx hb hown (hts (.constantLong RX12 101 (120)) (by decide +kernel)) dX12_drawn_12 ?_
      refine vp_callSi (va_Run.run (va_runS (As := [.long nb.toInt64, .long 80, .long 120]) (rest := []) ⟨hx, hb, hml, hown, hts⟩ (m_in l dC dI nb.toInt64 80 120) (va_cwS 3 hts gX12_drawn_X12_in rfl rfl rfl (by decide +kernel) ⟨Nat.le_of_ble_eq_true rfl, Nat.le_of_ble_eq_true rfl⟩) ⟨fun a U g mk q => ⟨q.1, trivial⟩, fun U hU hW => ⟨rfl, trivial⟩⟩ rfl rfl hl.1 rfl (lv_room (Nat.le_of_ble_eq_true rfl)) dX12_drawn_15 ⟨Nat.le_of_ble_eq_true rfl, Nat.le_of_ble_eq_true rfl⟩)) (fun r_5 hw_6 => ?_)
      by_cases hc_7 : 80 ≤ nb ∧ nb ≤ 120
      · obtain rfl : 1 = r_5 := (hw_6.trans (if_pos ((tz_in64 (by first | rfl | decide) rfl (by first | rfl | decide)).mpr hc_7))).symm
        refine lv_if_eq (tgt := 59) hx hb dX12_drawn_18 (by decide) (fun c_8 => ?_) (fun c_8 => ?_)
        · exact absurd c_8 (by decide)
        · refine lv_iload_n hx hb dX12_drawn_21 rfl (lv_at hl 3 rfl) ?_
          refine lv_i2l (v := nc.toInt64) hx hb dX12_drawn_22 rfl ?_
          refine lv_lconst (v := 0) hx hb dX12_drawn_23 (by decide) ?_
          refine lv_ldc2 hx hb hown (hts (.constantLong RX12 237 (60)) (by decide +kernel)) dX12_drawn_24 ?_
          refine vp_callSi (va_Run.run (va_runS (As := [.long nc.toInt64, .long 0, .long 60]) (rest := []) ⟨hx, hb, hml, hown, hts⟩ (m_in l dC dI nc.toInt64 0 60) (va_cwS 3 hts gX12_drawn_X12_in rfl rfl rfl (by decide +kernel) ⟨Nat.le_of_ble_eq_true rfl, Nat.le_of_ble_eq_true rfl⟩) ⟨fun a U g mk q => ⟨q.1, trivial⟩, fun U hU hW => ⟨rfl, trivial⟩⟩ rfl rfl hl.1 rfl (lv_room (Nat.le_of_ble_eq_true rfl)) dX12_drawn_27 ⟨Nat.le_of_ble_eq_true rfl, Nat.le_of_ble_eq_true rfl⟩)) (fun r_9 hw_10 => ?_)
          by_cases hc_11 : 0 ≤ nc ∧ nc ≤ 60
          · obtain rfl : 1 = r_9 := (hw_10.trans (if_pos ((tz_in64 (by first | rfl | decide) rfl (by first | rfl | decide)).mpr hc_11))).symm
            refine lv_if_eq (tgt := 59) hx hb dX12_drawn_30 (by decide) (fun c_12 => ?_) (fun c_12 => ?_)
            · exact absurd c_12 (by decide)
            · refine lv_iload hx hb dX12_drawn_33 (lv_at hl 4 rfl) ?_
              refine lv_i2l (v := nd.toInt64) hx hb dX12_drawn_35 rfl ?_
              refine lv_lconst (v := 0) hx hb dX12_drawn_36 (by decide) ?_
              refine lv_ldc2 hx hb hown (hts (.constantLong RX12 239 (999999)) (by decide +kernel)) dX12_drawn_37 ?_
              refine vp_callSi (va_Run.run (va_runS (As := [.long nd.toInt64, .long 0, .long 999999]) (rest := []) ⟨hx, hb, hml, hown, hts⟩ (m_in l dC dI nd.toInt64 0 999999) (va_cwS 3 hts gX12_drawn_X12_in rfl rfl rfl (by decide +kernel) ⟨Nat.le_of_ble_eq_true rfl, Nat.le_of_ble_eq_true rfl⟩) ⟨fun a U g mk q => ⟨q.1, trivial⟩, fun U hU hW => ⟨rfl, trivial⟩⟩ rfl rfl hl.1 rfl (lv_room (Nat.le_of_ble_eq_true rfl)) dX12_drawn_40 ⟨Nat.le_of_ble_eq_true rfl, Nat.le_of_ble_eq_true rfl⟩)) (fun r_13 hw_14 => ?_)
              by_cases hc_15 : 0 ≤ nd ∧ nd ≤ 999999
              · obtain rfl : 1 = r_13 := (hw_14.trans (if_pos ((tz_in64 (by first | rfl | decide) rfl (by first | rfl | decide)).mpr hc_15))).symm
                refine lv_if_eq (tgt := 59) hx hb dX12_drawn_43 (by decide) (fun c_16 => ?_) (fun c_16 => ?_)
                · exact absurd c_16 (by decide)
                · refine lv_iload hx hb dX12_drawn_46 (lv_at hl 5 rfl) ?_
                  refine lv_i2l (v := ne.toInt64) hx hb dX12_drawn_48 rfl ?_
                  refine lv_lconst (v := 0) hx hb dX12_drawn_49 (by decide) ?_
                  refine lv_ldc2 hx hb hown (hts (.constantLong RX12 241 (2)) (by decide +kernel)) dX12_drawn_50 ?_
                  refine vp_callSi (va_Run.run (va_runS (As := [.long ne.toInt64, .long 0, .long 2]) (rest := []) ⟨hx, hb, hml, hown, hts⟩ (m_in l dC dI ne.toInt64 0 2) (va_cwS 3 hts gX12_drawn_X12_in rfl rfl rfl (by decide +kernel) ⟨Nat.le_of_ble_eq_true rfl, Nat.le_of_ble_eq_true rfl⟩) ⟨fun a U g mk q => ⟨q.1, trivial⟩, fun U hU hW => ⟨rfl, trivial⟩⟩ rfl rfl hl.1 rfl (lv_room (Nat.le_of_ble_eq_true rfl)) dX12_drawn_53 ⟨Nat.le_of_ble_eq_true rfl, Nat.le_of_ble_eq_true rfl⟩)) (fun r_17 hw_18 => ?_)
                  by_cases hc_19 : 0 ≤ ne ∧ ne ≤ 2
                  · obtain rfl : 1 = r_17 := (hw_18.trans (if_pos ((tz_in64 (by first | rfl | decide) rfl (by first | rfl | decide)).mpr hc_19))).symm
                    refine lv_if_ne (tgt := 66) hx hb dX12_drawn_56 (by decide) (fun c_20 => ?_) (fun c_20 => ?_)
                    · refine lv_iload hx hb dX12_drawn_66 (lv_at hl 4 rfl) ?_
                      refine lv_i2l (v := nd.toInt64) hx hb dX12_drawn_68 rfl ?_
                      refine lv_lstore (lv' := [(6, .long nd.toInt64), (0, .ref mo), (1, .int na), (2, .int nb), (3, .int nc), (4, .int nd), (5, .int ne)]) hx hb dX12_drawn_69 hl (by decide) rfl (fun ls hl => ?_)
                      refine lv_iconst (v := 0) hx hb dX12_drawn_71 (by decide) ?_
                      refine lv_istore (lv' := [(8, .int 0), (6, .long nd.toInt64), (0, .ref mo), (1, .int na), (2, .int nb), (3, .int nc), (4, .int nd), (5, .int ne)]) hx hb dX12_drawn_72 hl (by decide) rfl (fun ls hl => ?_)
                      refine lv_iconst (v := (-1)) hx hb dX12_drawn_74 (by decide) ?_
                      refine lv_istore (lv' := [(9, .int (-1)), (8, .int 0), (6, .long nd.toInt64), (0, .ref mo), (1, .int na), (2, .int nb), (3, .int nc), (4, .int nd), (5, .int ne)]) hx hb dX12_drawn_75 hl (by decide) rfl (fun ls hl => ?_)
                      refine lv_iconst (v := (-1)) hx hb dX12_drawn_77 (by decide) ?_
                      refine lv_istore (lv' := [(10, .int (-1)), (9, .int (-1)), (8, .int 0), (6, .long nd.toInt64), (0, .ref mo), (1, .int na), (2, .int nb), (3, .int nc), (4, .int nd), (5, .int ne)]) hx hb dX12_drawn_78 hl (by decide) rfl (fun ls hl => ?_)
                      refine lv_iconst (v := 0) hx hb dX12_drawn_80 (by decide) ?_
                      refine lv_istore (lv' := [(11, .int 0), (10, .int (-1)), (9, .int (-1)), (8, .int 0), (6, .long nd.toInt64), (0, .ref mo), (1, .int na), (2, .int nb), (3, .int nc), (4, .int nd), (5, .int ne)]) hx hb dX12_drawn_81 hl (by decide) rfl (fun ls hl => ?_)
                      refine tz_while (σ := Int32 × Int32 × Int64 × Int32 × Int32 × Array Slot) (fun x => W p l e _ s m _ below meth c _ _ _ _ _ (F0 m 83 x.2.2.2.2.2 [])) (fun x => lv_has x.2.2.2.2.2 13 [(11, .int x.1), (10, .int x.2.2.2.1), (9, .int x.2.1), (8, .int x.2.2.2.2.1), (6, .long x.2.2.1), (0, .ref mo), (1, .int na), (2, .int nb), (3, .int nc), (4, .int nd), (5, .int ne)]) (fun x => (nc.toInt - x.1.toInt).toNat) ?_ (0, (-1), nd.toInt64, (-1), 0, ls) hl
                      rintro ⟨v_35, v_36, v_37, v_38, v_39, ls⟩ hl ih_62
                      dsimp only at hl ih_62 ⊢
                      refine lv_iload hx hb dX12_drawn_83 (lv_at hl 0 rfl) ?_
                      refine lv_iload_n hx hb dX12_drawn_85 rfl (lv_at hl 8 rfl) ?_
                      refine lv_icmp_ge (tgt := 183) hx hb dX12_drawn_86 (by decide) (fun c_63 => ?_) (fun c_63 => ?_)
                      · refine lv_iload hx hb dX12_drawn_183 (lv_at hl 10 rfl) ?_
                        refine lv_if_ne (tgt := 193) hx hb dX12_drawn_185 (by decide) (fun c_64 => ?_) (fun c_64 => ?_)
                        · refine lv_iload hx hb dX12_drawn_193 (lv_at hl 10 rfl) ?_
                          refine lv_iconst (v := 1) hx hb dX12_drawn_195 (by decide) ?_
                          refine lv_icmp_ne (tgt := 204) hx hb dX12_drawn_196 (by decide) (fun c_65 => ?_) (fun c_65 => ?_)
                          · refine lv_iload hx hb dX12_drawn_204 (lv_at hl 1 rfl) ?_
                            have hP9 := hP.sub (ws' := [(mo, .inr (12, [.ref nw, .ref kp, .ref ik, .ref mr, .long la_, .long lb_, .ref mw, .long lc_, .int ti_, .int cb_, .long ld_, .long le_, .ref mq, .ref mz, .ref my, .int sm_, .ref mb, .int bl_, .int ta_, .int tl_, .int tk_, .int vl_, .ref mx, .ref mv])), (mr, .inl (cr_, 3, .inl fr_))]) [0, 1] rfl
                            have hD9 := hD.sub (ws' := [(mo, .inr (12, [.ref nw, .ref kp, .ref ik, .ref mr, .long la_, .long lb_, .ref mw, .long lc_, .int ti_, .int cb_, .long ld_, .long le_, .ref mq, .ref mz, .ref my, .int sm_, .ref mb, .int bl_, .int ta_, .int tl_, .int tk_, .int vl_, .ref mx, .ref mv])), (mr, .inl (cr_, 3, .inl fr_))]) [0, 1] (by decide) rfl
                            have hK9 := hK.sub (tys' := [(cr_, .int)]) [0] rfl
                            exact W.iret (v := v_38) hx hb hr (fun t ht hW => ⟨⟨v_38, (), rfl, trivial, fr_, by rw [ht]; exact hP9, va_K.moved hW.alike hK9, hD9⟩, hS.F ht⟩) hS.2.2 dX12_drawn_206
                          · refine lv_iload hx hb dX12_drawn_199 (lv_at hl 2 rfl) ?_
                            refine lv_goto (tgt := 206) hx hb dX12_drawn_201 (by decide) ?_
                            have hP9 := hP.sub (ws' := [(mo, .inr (12, [.ref nw, .ref kp, .ref ik, .ref mr, .long la_, .long lb_, .ref mw, .long lc_, .int ti_, .int cb_, .long ld_, .long le_, .ref mq, .ref mz, .ref my, .int sm_, .ref mb, .int bl_, .int ta_, .int tl_, .int tk_, .int vl_, .ref mx, .ref mv])), (mr, .inl (cr_, 3, .inl fr_))]) [0, 1] rfl
                            have hD9 := hD.sub (ws' := [(mo, .inr (12, [.ref nw, .ref kp, .ref ik, .ref mr, .long la_, .long lb_, .ref mw, .long lc_, .int ti_, .int cb_, .long ld_, .long le_, .ref mq, .ref mz, .ref my, .int sm_, .ref mb, .int bl_, .int ta_, .int tl_, .int tk_, .int vl_, .ref mx, .ref mv])), (mr, .inl (cr_, 3, .inl fr_))]) [0, 1] (by decide) rfl
                            have hK9 := hK.sub (tys' := [(cr_, .int)]) [0] rfl
                            exact W.iret (v := v_36) hx hb hr (fun t ht hW => ⟨⟨v_36, (), rfl, trivial, fr_, by rw [ht]; exact hP9, va_K.moved hW.alike hK9, hD9⟩, hS.F ht⟩) hS.2.2 dX12_drawn_206
                        · refine lv_iload hx hb dX12_drawn_188 (lv_at hl 3 rfl) ?_
                          refine lv_goto (tgt := 206) hx hb dX12_drawn_190 (by decide) ?_
                          have hP9 := hP.sub (ws' := [(mo, .inr (12, [.ref nw, .ref kp, .ref ik, .ref mr, .long la_, .long lb_, .ref mw, .long lc_, .int ti_, .int cb_, .long ld_, .long le_, .ref mq, .ref mz, .ref my, .int sm_, .ref mb, .int bl_, .int ta_, .int tl_, .int tk_, .int vl_, .ref mx, .ref mv])), (mr, .inl (cr_, 3, .inl fr_))]) [0, 1] rfl
                          have hD9 := hD.sub (ws' := [(mo, .inr (12, [.ref nw, .ref kp, .ref ik, .ref mr, .long la_, .long lb_, .ref mw, .long lc_, .int ti_, .int cb_, .long ld_, .long le_, .ref mq, .ref mz, .ref my, .int sm_, .ref mb, .int bl_, .int ta_, .int tl_, .int tk_, .int vl_, .ref mx, .ref mv])), (mr, .inl (cr_, 3, .inl fr_))]) [0, 1] (by decide) rfl
                          have hK9 := hK.sub (tys' := [(cr_, .int)]) [0] rfl
                          exact W.iret (v := v_39) hx hb hr (fun t ht hW => ⟨⟨v_39, (), rfl, trivial, fr_, by rw [ht]; exact hP9, va_K.moved hW.alike hK9, hD9⟩, hS.F ht⟩) hS.2.2 dX12_drawn_206
                      · refine lv_lload hx hb dX12_drawn_89 (lv_at hl 4 rfl) ?_
                        refine lv_ldc2 hx hb hown (hts (.constantLong RX12 243 (1103515245)) (by decide +kernel)) dX12_drawn_91 ?_
                        refine lv_lmul hx hb dX12_drawn_94 ?_
                        refine lv_topl (fun x_66 _ => ?_)
                        refine lv_ldc2 hx hb hown (hts (.constantLong RX12 245 (12345)) (by decide +kernel)) dX12_drawn_95 ?_
                        refine lv_ladd hx hb dX12_drawn_98 ?_
                        refine lv_topl (fun x_67 _ => ?_)
                        refine lv_ldc2 hx hb hown (hts (.constantLong RX12 247 (2147483648)) (by decide +kernel)) dX12_drawn_99 ?_
                        refine lv_lrem hx hb dX12_drawn_102 (by decide) ?_
                        refine lv_topl (fun x_68 _ => ?_)
                        refine lv_lstore (lv' := [(6, .long x_68), (11, .int v_35), (10, .int v_38), (9, .int v_36), (8, .int v_39), (0, .ref mo), (1, .int na), (2, .int nb), (3, .int nc), (4, .int nd), (5, .int ne)]) hx hb dX12_drawn_103 hl (by decide) rfl (fun ls hl => ?_)
                        refine lv_iload_n hx hb dX12_drawn_105 rfl (lv_at hl 7 rfl) ?_
                        refine lv_iload_n hx hb dX12_drawn_106 rfl (lv_at hl 6 rfl) ?_
                        refine lv_lload hx hb dX12_drawn_107 (lv_at hl 0 rfl) ?_
                        refine lv_ldc2 hx hb hown (hts (.constantLong RX12 249 (65536)) (by decide +kernel)) dX12_drawn_109 ?_
                        refine lv_ldiv hx hb dX12_drawn_112 (by decide) ?_
                        refine lv_topl (fun x_69 _ => ?_)
                        refine lv_ldc2 hx hb hown (hts (.constantLong RX12 206 (20)) (by decide +kernel)) dX12_drawn_113 ?_
                        refine lv_lrem hx hb dX12_drawn_116 (by decide) ?_
                        refine lv_topl (fun x_70 _ => ?_)
                        refine lv_l2i (v := x_70.toInt32) hx hb dX12_drawn_117 rfl ?_
                        refine vp_callSi (va_Run.run (va_runS (As := [.int na, .int x_70.toInt32]) (rest := [.int nb]) ⟨hx, hb, hml, hown, hts⟩ (m_offBy l dC dI na x_70.toInt32 hc_3) (va_cwS 2 hts gX12_drawn_X12_offBy rfl rfl rfl (by decide +kernel) ⟨Nat.le_of_ble_eq_true rfl, Nat.le_of_ble_eq_true rfl⟩) ⟨fun a U g mk q => ⟨q.1, trivial⟩, fun U hU hW => ⟨rfl, trivial⟩⟩ rfl rfl hl.1 rfl (lv_room (Nat.le_of_ble_eq_true rfl)) dX12_drawn_118 ⟨Nat.le_of_ble_eq_true rfl, Nat.le_of_ble_eq_true rfl⟩)) (fun r_71 hw_72 => ?_)
                        obtain rfl : (yS na x_70.toInt32) = r_71 := hw_72.symm
                        refine lv_iadd hx hb dX12_drawn_121 ?_
                        refine lv_topi (fun x_73 _ => ?_)
                        refine lv_istore (lv' := [(12, .int x_73), (6, .long x_68), (11, .int v_35), (10, .int v_38), (9, .int v_36), (8, .int v_39), (0, .ref mo), (1, .int na), (2, .int nb), (3, .int nc), (4, .int nd), (5, .int ne)]) hx hb dX12_drawn_122 hl (by decide) rfl (fun ls hl => ?_)
                        refine lv_iload hx hb dX12_drawn_124 (lv_at hl 5 rfl) ?_
                        refine lv_iload hx hb dX12_drawn_126 (lv_at hl 0 rfl) ?_
                        refine lv_iload_n hx hb dX12_drawn_128 rfl (lv_at hl 8 rfl) ?_
                        refine lv_icmp_ne (tgt := 136) hx hb dX12_drawn_129 (by decide) (fun c_74 => ?_) (fun c_74 => ?_)
                        · refine lv_iconst (v := 0) hx hb dX12_drawn_136 (by decide) ?_
                          refine lv_iadd hx hb dX12_drawn_137 ?_
                          refine lv_topi (fun x_75 _ => ?_)
                          refine lv_istore (lv' := [(8, .int x_75), (12, .int x_73), (6, .long x_68), (11, .int v_35), (10, .int v_38), (9, .int v_36), (0, .ref mo), (1, .int na), (2, .int nb), (3, .int nc), (4, .int nd), (5, .int ne)]) hx hb dX12_drawn_138 hl (by decide) rfl (fun ls hl => ?_)
                          refine lv_iload hx hb dX12_drawn_140 (lv_at hl 3 rfl) ?_
                          refine lv_if_eq (tgt := 152) hx hb dX12_drawn_142 (by decide) (fun c_76 => ?_) (fun c_76 => ?_)
                          · refine lv_iload hx hb dX12_drawn_152 (lv_at hl 1 rfl) ?_
                            refine lv_goto (tgt := 159) hx hb dX12_drawn_154 (by decide) ?_
                            refine lv_istore (lv' := [(9, .int x_73), (8, .int x_75), (12, .int x_73), (6, .long x_68), (11, .int v_35), (10, .int v_38), (0, .ref mo), (1, .int na), (2, .int nb), (3, .int nc), (4, .int nd), (5, .int ne)]) hx hb dX12_drawn_159 hl (by decide) rfl (fun ls hl => ?_)
                            refine lv_iload hx hb dX12_drawn_161 (lv_at hl 2 rfl) ?_
                            refine lv_iload hx hb dX12_drawn_163 (lv_at hl 5 rfl) ?_
                            refine lv_icmp_le (tgt := 173) hx hb dX12_drawn_165 (by decide) (fun c_77 => ?_) (fun c_77 => ?_)
                            · refine lv_iload hx hb dX12_drawn_173 (lv_at hl 5 rfl) ?_
                              refine lv_istore (lv' := [(10, .int v_38), (9, .int x_73), (8, .int x_75), (12, .int x_73), (6, .long x_68), (11, .int v_35), (0, .ref mo), (1, .int na), (2, .int nb), (3, .int nc), (4, .int nd), (5, .int ne)]) hx hb dX12_drawn_175 hl (by decide) rfl (fun ls hl => ?_)
                              refine lv_iinc (v := (v_35 + 1)) (lv' := [(11, .int (v_35 + 1)), (10, .int v_38), (9, .int x_73), (8, .int x_75), (12, .int x_73), (6, .long x_68), (0, .ref mo), (1, .int na), (2, .int nb), (3, .int nc), (4, .int nd), (5, .int ne)]) hx hb dX12_drawn_177 hl (k := 5) rfl rfl (by decide) rfl (fun ls hl => ?_)
                              refine lv_goto (tgt := 83) hx hb dX12_drawn_180 (by decide) ?_
                              exact ih_62 ((v_35 + 1), x_73, x_68, v_38, x_75, ls) (lv_sub hl [0, 1, 2, 3, 5, 6, 7, 8, 9, 10, 11] rfl) (tz_mu c_63)
                            · refine lv_iload hx hb dX12_drawn_168 (lv_at hl 2 rfl) ?_
                              refine lv_goto (tgt := 175) hx hb dX12_drawn_170 (by decide) ?_
                              refine lv_istore (lv' := [(10, .int x_73), (9, .int x_73), (8, .int x_75), (12, .int x_73), (6, .long x_68), (11, .int v_35), (0, .ref mo), (1, .int na), (2, .int nb), (3, .int nc), (4, .int nd), (5, .int ne)]) hx hb dX12_drawn_175 hl (by decide) rfl (fun ls hl => ?_)
                              refine lv_iinc (v := (v_35 + 1)) (lv' := [(11, .int (v_35 + 1)), (10, .int x_73), (9, .int x_73), (8, .int x_75), (12, .int x_73), (6, .long x_68), (0, .ref mo), (1, .int na), (2, .int nb), (3, .int nc), (4, .int nd), (5, .int ne)]) hx hb dX12_drawn_177 hl (k := 5) rfl rfl (by decide) rfl (fun ls hl => ?_)
                              refine lv_goto (tgt := 83) hx hb dX12_drawn_180 (by decide) ?_
                              exact ih_62 ((v_35 + 1), x_73, x_68, x_73, x_75, ls) (lv_sub hl [0, 1, 2, 3, 5, 6, 7, 8, 9, 10, 11] rfl) (tz_mu c_63)
                          · refine lv_iload hx hb dX12_drawn_145 (lv_at hl 1 rfl) ?_
                            refine lv_iload hx hb dX12_drawn_147 (lv_at hl 5 rfl) ?_
                            refine lv_icmp_ge (tgt := 157) hx hb dX12_drawn_149 (by decide) (fun c_78 => ?_) (fun c_78 => ?_)
                            · refine lv_iload hx hb dX12_drawn_157 (lv_at hl 5 rfl) ?_
                              refine lv_istore (lv' := [(9, .int v_36), (8, .int x_75), (12, .int x_73), (6, .long x_68), (11, .int v_35), (10, .int v_38), (0, .ref mo), (1, .int na), (2, .int nb), (3, .int nc), (4, .int nd), (5, .int ne)]) hx hb dX12_drawn_159 hl (by decide) rfl (fun ls hl => ?_)
                              refine lv_iload hx hb dX12_drawn_161 (lv_at hl 2 rfl) ?_
                              refine lv_iload hx hb dX12_drawn_163 (lv_at hl 5 rfl) ?_
                              refine lv_icmp_le (tgt := 173) hx hb dX12_drawn_165 (by decide) (fun c_79 => ?_) (fun c_79 => ?_)
                              · refine lv_iload hx hb dX12_drawn_173 (lv_at hl 5 rfl) ?_
                                refine lv_istore (lv' := [(10, .int v_38), (9, .int v_36), (8, .int x_75), (12, .int x_73), (6, .long x_68), (11, .int v_35), (0, .ref mo), (1, .int na), (2, .int nb), (3, .int nc), (4, .int nd), (5, .int ne)]) hx hb dX12_drawn_175 hl (by decide) rfl (fun ls hl => ?_)
                                refine lv_iinc (v := (v_35 + 1)) (lv' := [(11, .int (v_35 + 1)), (10, .int v_38), (9, .int v_36), (8, .int x_75), (12, .int x_73), (6, .long x_68), (0, .ref mo), (1, .int na), (2, .int nb), (3, .int nc), (4, .int nd), (5, .int ne)]) hx hb dX12_drawn_177 hl (k := 5) rfl rfl (by decide) rfl (fun ls hl => ?_)
                                refine lv_goto (tgt := 83) hx hb dX12_drawn_180 (by decide) ?_
                                exact ih_62 ((v_35 + 1), v_36, x_68, v_38, x_75, ls) (lv_sub hl [0, 1, 2, 3, 5, 6, 7, 8, 9, 10, 11] rfl) (tz_mu c_63)
                              · refine lv_iload hx hb dX12_drawn_168 (lv_at hl 2 rfl) ?_
                                refine lv_goto (tgt := 175) hx hb dX12_drawn_170 (by decide) ?_
                                refine lv_istore (lv' := [(10, .int x_73), (9, .int v_36), (8, .int x_75), (12, .int x_73), (6, .long x_68), (11, .int v_35), (0, .ref mo), (1, .int na), (2, .int nb), (3, .int nc), (4, .int nd), (5, .int ne)]) hx hb dX12_drawn_175 hl (by decide) rfl (fun ls hl => ?_)
                                refine lv_iinc (v := (v_35 + 1)) (lv' := [(11, .int (v_35 + 1)), (10, .int x_73), (9, .int v_36), (8, .int x_75), (12, .int x_73), (6, .long x_68), (0, .ref mo), (1, .int na), (2, .int nb), (3, .int nc), (4, .int nd), (5, .int ne)]) hx hb dX12_drawn_177 hl (k := 5) rfl rfl (by decide) rfl (fun ls hl => ?_)
                                refine lv_goto (tgt := 83) hx hb dX12_drawn_180 (by decide) ?_
                                exact ih_62 ((v_35 + 1), v_36, x_68, x_73, x_75, ls) (lv_sub hl [0, 1, 2, 3, 5, 6, 7, 8, 9, 10, 11] rfl) (tz_mu c_63)
                            · refine lv_iload hx hb dX12_drawn_152 (lv_at hl 1 rfl) ?_
                              refine lv_goto (tgt := 159) hx hb dX12_drawn_154 (by decide) ?_
                              refine lv_istore (lv' := [(9, .int x_73), (8, .int x_75), (12, .int x_73), (6, .long x_68), (11, .int v_35), (10, .int v_38), (0, .ref mo), (1, .int na), (2, .int nb), (3, .int nc), (4, .int nd), (5, .int ne)]) hx hb dX12_drawn_159 hl (by decide) rfl (fun ls hl => ?_)
                              refine lv_iload hx hb dX12_drawn_161 (lv_at hl 2 rfl) ?_
                              refine lv_iload hx hb dX12_drawn_163 (lv_at hl 5 rfl) ?_
                              refine lv_icmp_le (tgt := 173) hx hb dX12_drawn_165 (by decide) (fun c_80 => ?_) (fun c_80 => ?_)
                              · refine lv_iload hx hb dX12_drawn_173 (lv_at hl 5 rfl) ?_
                                refine lv_istore (lv' := [(10, .int v_38), (9, .int x_73), (8, .int x_75), (12, .int x_73), (6, .long x_68), (11, .int v_35), (0, .ref mo), (1, .int na), (2, .int nb), (3, .int nc), (4, .int nd), (5, .int ne)]) hx hb dX12_drawn_175 hl (by decide) rfl (fun ls hl => ?_)
                                refine lv_iinc (v := (v_35 + 1)) (lv' := [(11, .int (v_35 + 1)), (10, .int v_38), (9, .int x_73), (8, .int x_75), (12, .int x_73), (6, .long x_68), (0, .ref mo), (1, .int na), (2, .int nb), (3, .int nc), (4, .int nd), (5, .int ne)]) hx hb dX12_drawn_177 hl (k := 5) rfl rfl (by decide) rfl (fun ls hl => ?_)
                                refine lv_goto (tgt := 83) hx hb dX12_drawn_180 (by decide) ?_
                                exact ih_62 ((v_35 + 1), x_73, x_68, v_38, x_75, ls) (lv_sub hl [0, 1, 2, 3, 5, 6, 7, 8, 9, 10, 11] rfl) (tz_mu c_63)
                              · refine lv_iload hx hb dX12_drawn_168 (lv_at hl 2 rfl) ?_
                                refine lv_goto (tgt := 175) hx hb dX12_drawn_170 (by decide) ?_
                                refine lv_istore (lv' := [(10, .int x_73), (9, .int x_73), (8, .int x_75), (12, .int x_73), (6, .long x_68), (11, .int v_35), (0, .ref mo), (1, .int na), (2, .int nb), (3, .int nc), (4, .int nd), (5, .int ne)]) hx hb dX12_drawn_175 hl (by decide) rfl (fun ls hl => ?_)
                                refine lv_iinc (v := (v_35 + 1)) (lv' := [(11, .int (v_35 + 1)), (10, .int x_73), (9, .int x_73), (8, .int x_75), (12, .int x_73), (6, .long x_68), (0, .ref mo), (1, .int na), (2, .int nb), (3, .int nc), (4, .int nd), (5, .int ne)]) hx hb dX12_drawn_177 hl (k := 5) rfl rfl (by decide) rfl (fun ls hl => ?_)
                                refine lv_goto (tgt := 83) hx hb dX12_drawn_180 (by decide) ?_
                                exact ih_62 ((v_35 + 1), x_73, x_68, x_73, x_75, ls) (lv_sub hl [0, 1, 2, 3, 5, 6, 7, 8, 9, 10, 11] rfl) (tz_mu c_63)
                        · refine lv_iconst (v := 1) hx hb dX12_drawn_132 (by decide) ?_
                          refine lv_goto (tgt := 137) hx hb dX12_drawn_133 (by decide) ?_
                          refine lv_iadd hx hb dX12_drawn_137 ?_
                          refine lv_topi (fun x_81 _ => ?_)
                          refine lv_istore (lv' := [(8, .int x_81), (12, .int x_73), (6, .long x_68), (11, .int v_35), (10, .int v_38), (9, .int v_36), (0, .ref mo), (1, .int na), (2, .int nb), (3, .int nc), (4, .int nd), (5, .int ne)]) hx hb dX12_drawn_138 hl (by decide) rfl (fun ls hl => ?_)
                          refine lv_iload hx hb dX12_drawn_140 (lv_at hl 3 rfl) ?_
                          refine lv_if_eq (tgt := 152) hx hb dX12_drawn_142 (by decide) (fun c_82 => ?_) (fun c_82 => ?_)
                          · refine lv_iload hx hb dX12_drawn_152 (lv_at hl 1 rfl) ?_
                            refine lv_goto (tgt := 159) hx hb dX12_drawn_154 (by decide) ?_
                            refine lv_istore (lv' := [(9, .int x_73), (8, .int x_81), (12, .int x_73), (6, .long x_68), (11, .int v_35), (10, .int v_38), (0, .ref mo), (1, .int na), (2, .int nb), (3, .int nc), (4, .int nd), (5, .int ne)]) hx hb dX12_drawn_159 hl (by decide) rfl (fun ls hl => ?_)
                            refine lv_iload hx hb dX12_drawn_161 (lv_at hl 2 rfl) ?_
                            refine lv_iload hx hb dX12_drawn_163 (lv_at hl 5 rfl) ?_
                            refine lv_icmp_le (tgt := 173) hx hb dX12_drawn_165 (by decide) (fun c_83 => ?_) (fun c_83 => ?_)
                            · refine lv_iload hx hb dX12_drawn_173 (lv_at hl 5 rfl) ?_
                              refine lv_istore (lv' := [(10, .int v_38), (9, .int x_73), (8, .int x_81), (12, .int x_73), (6, .long x_68), (11, .int v_35), (0, .ref mo), (1, .int na), (2, .int nb), (3, .int nc), (4, .int nd), (5, .int ne)]) hx hb dX12_drawn_175 hl (by decide) rfl (fun ls hl => ?_)
                              refine lv_iinc (v := (v_35 + 1)) (lv' := [(11, .int (v_35 + 1)), (10, .int v_38), (9, .int x_73), (8, .int x_81), (12, .int x_73), (6, .long x_68), (0, .ref mo), (1, .int na), (2, .int nb), (3, .int nc), (4, .int nd), (5, .int ne)]) hx hb dX12_drawn_177 hl (k := 5) rfl rfl (by decide) rfl (fun ls hl => ?_)
                              refine lv_goto (tgt := 83) hx hb dX12_drawn_180 (by decide) ?_
                              exact ih_62 ((v_35 + 1), x_73, x_68, v_38, x_81, ls) (lv_sub hl [0, 1, 2, 3, 5, 6, 7, 8, 9, 10, 11] rfl) (tz_mu c_63)
                            · refine lv_iload hx hb dX12_drawn_168 (lv_at hl 2 rfl) ?_
                              refine lv_goto (tgt := 175) hx hb dX12_drawn_170 (by decide) ?_
                              refine lv_istore (lv' := [(10, .int x_73), (9, .int x_73), (8, .int x_81), (12, .int x_73), (6, .long x_68), (11, .int v_35), (0, .ref mo), (1, .int na), (2, .int nb), (3, .int nc), (4, .int nd), (5, .int ne)]) hx hb dX12_drawn_175 hl (by decide) rfl (fun ls hl => ?_)
                              refine lv_iinc (v := (v_35 + 1)) (lv' := [(11, .int (v_35 + 1)), (10, .int x_73), (9, .int x_73), (8, .int x_81), (12, .int x_73), (6, .long x_68), (0, .ref mo), (1, .int na), (2, .int nb), (3, .int nc), (4, .int nd), (5, .int ne)]) hx hb dX12_drawn_177 hl (k := 5) rfl rfl (by decide) rfl (fun ls hl => ?_)
                              refine lv_goto (tgt := 83) hx hb dX12_drawn_180 (by decide) ?_
                              exact ih_62 ((v_35 + 1), x_73, x_68, x_73, x_81, ls) (lv_sub hl [0, 1, 2, 3, 5, 6, 7, 8, 9, 10, 11] rfl) (tz_mu c_63)
                          · refine lv_iload hx hb dX12_drawn_145 (lv_at hl 1 rfl) ?_
                            refine lv_iload hx hb dX12_drawn_147 (lv_at hl 5 rfl) ?_
                            refine lv_icmp_ge (tgt := 157) hx hb dX12_drawn_149 (by decide) (fun c_84 => ?_) (fun c_84 => ?_)
                            · refine lv_iload hx hb dX12_drawn_157 (lv_at hl 5 rfl) ?_
                              refine lv_istore (lv' := [(9, .int v_36), (8, .int x_81), (12, .int x_73), (6, .long x_68), (11, .int v_35), (10, .int v_38), (0, .ref mo), (1, .int na), (2, .int nb), (3, .int nc), (4, .int nd), (5, .int ne)]) hx hb dX12_drawn_159 hl (by decide) rfl (fun ls hl => ?_)
                              refine lv_iload hx hb dX12_drawn_161 (lv_at hl 2 rfl) ?_
                              refine lv_iload hx hb dX12_drawn_163 (lv_at hl 5 rfl) ?_
                              refine lv_icmp_le (tgt := 173) hx hb dX12_drawn_165 (by decide) (fun c_85 => ?_) (fun c_85 => ?_)
                              · refine lv_iload hx hb dX12_drawn_173 (lv_at hl 5 rfl) ?_
                                refine lv_istore (lv' := [(10, .int v_38), (9, .int v_36), (8, .int x_81), (12, .int x_73), (6, .long x_68), (11, .int v_35), (0, .ref mo), (1, .int na), (2, .int nb), (3, .int nc), (4, .int nd), (5, .int ne)]) hx hb dX12_drawn_175 hl (by decide) rfl (fun ls hl => ?_)
                                refine lv_iinc (v := (v_35 + 1)) (lv' := [(11, .int (v_35 + 1)), (10, .int v_38), (9, .int v_36), (8, .int x_81), (12, .int x_73), (6, .long x_68), (0, .ref mo), (1, .int na), (2, .int nb), (3, .int nc), (4, .int nd), (5, .int ne)]) hx hb dX12_drawn_177 hl (k := 5) rfl rfl (by decide) rfl (fun ls hl => ?_)
                                refine lv_goto (tgt := 83) hx hb dX12_drawn_180 (by decide) ?_
                                exact ih_62 ((v_35 + 1), v_36, x_68, v_38, x_81, ls) (lv_sub hl [0, 1, 2, 3, 5, 6, 7, 8, 9, 10, 11] rfl) (tz_mu c_63)
                              · refine lv_iload hx hb dX12_drawn_168 (lv_at hl 2 rfl) ?_
                                refine lv_goto (tgt := 175) hx hb dX12_drawn_170 (by decide) ?_
                                refine lv_istore (lv' := [(10, .int x_73), (9, .int v_36), (8, .int x_81), (12, .int x_73), (6, .long x_68), (11, .int v_35), (0, .ref mo), (1, .int na), (2, .int nb), (3, .int nc), (4, .int nd), (5, .int ne)]) hx hb dX12_drawn_175 hl (by decide) rfl (fun ls hl => ?_)
                                refine lv_iinc (v := (v_35 + 1)) (lv' := [(11, .int (v_35 + 1)), (10, .int x_73), (9, .int v_36), (8, .int x_81), (12, .int x_73), (6, .long x_68), (0, .ref mo), (1, .int na), (2, .int nb), (3, .int nc), (4, .int nd), (5, .int ne)]) hx hb dX12_drawn_177 hl (k := 5) rfl rfl (by decide) rfl (fun ls hl => ?_)
                                refine lv_goto (tgt := 83) hx hb dX12_drawn_180 (by decide) ?_
                                exact ih_62 ((v_35 + 1), v_36, x_68, x_73, x_81, ls) (lv_sub hl [0, 1, 2, 3, 5, 6, 7, 8, 9, 10, 11] rfl) (tz_mu c_63)
                            · refine lv_iload hx hb dX12_drawn_152 (lv_at hl 1 rfl) ?_
                              refine lv_goto (tgt := 159) hx hb dX12_drawn_154 (by decide) ?_
                              refine lv_istore (lv' := [(9, .int x_73), (8, .int x_81), (12, .int x_73), (6, .long x_68), (11, .int v_35), (10, .int v_38), (0, .ref mo), (1, .int na), (2, .int nb), (3, .int nc), (4, .int nd), (5, .int ne)]) hx hb dX12_drawn_159 hl (by decide) rfl (fun ls hl => ?_)
                              refine lv_iload hx hb dX12_drawn_161 (lv_at hl 2 rfl) ?_
                              refine lv_iload hx hb dX12_drawn_163 (lv_at hl 5 rfl) ?_
                              refine lv_icmp_le (tgt := 173) hx hb dX12_drawn_165 (by decide) (fun c_86 => ?_) (fun c_86 => ?_)
                              · refine lv_iload hx hb dX12_drawn_173 (lv_at hl 5 rfl) ?_
                                refine lv_istore (lv' := [(10, .int v_38), (9, .int x_73), (8, .int x_81), (12, .int x_73), (6, .long x_68), (11, .int v_35), (0, .ref mo), (1, .int na), (2, .int nb), (3, .int nc), (4, .int nd), (5, .int ne)]) hx hb dX12_drawn_175 hl (by decide) rfl (fun ls hl => ?_)
                                refine lv_iinc (v := (v_35 + 1)) (lv' := [(11, .int (v_35 + 1)), (10, .int v_38), (9, .int x_73), (8, .int x_81), (12, .int x_73), (6, .long x_68), (0, .ref mo), (1, .int na), (2, .int nb), (3, .int nc), (4, .int nd), (5, .int ne)]) hx hb dX12_drawn_177 hl (k := 5) rfl rfl (by decide) rfl (fun ls hl => ?_)
                                refine lv_goto (tgt := 83) hx hb dX12_drawn_180 (by decide) ?_
                                exact ih_62 ((v_35 + 1), x_73, x_68, v_38, x_81, ls) (lv_sub hl [0, 1, 2, 3, 5, 6, 7, 8, 9, 10, 11] rfl) (tz_mu c_63)
                              · refine lv_iload hx hb dX12_drawn_168 (lv_at hl 2 rfl) ?_
                                refine lv_goto (tgt := 175) hx hb dX12_drawn_170 (by decide) ?_
                                refine lv_istore (lv' := [(10, .int x_73), (9, .int x_73), (8, .int x_81), (12, .int x_73), (6, .long x_68), (11, .int v_35), (0, .ref mo), (1, .int na), (2, .int nb), (3, .int nc), (4, .int nd), (5, .int ne)]) hx hb dX12_drawn_175 hl (by decide) rfl (fun ls hl => ?_)
                                refine lv_iinc (v := (v_35 + 1)) (lv' := [(11, .int (v_35 + 1)), (10, .int x_73), (9, .int x_73), (8, .int x_81), (12, .int x_73), (6, .long x_68), (0, .ref mo), (1, .int na), (2, .int nb), (3, .int nc), (4, .int nd), (5, .int ne)]) hx hb dX12_drawn_177 hl (k := 5) rfl rfl (by decide) rfl (fun ls hl => ?_)
                                refine lv_goto (tgt := 83) hx hb dX12_drawn_180 (by decide) ?_
                                exact ih_62 ((v_35 + 1), x_73, x_68, x_73, x_81, ls) (lv_sub hl [0, 1, 2, 3, 5, 6, 7, 8, 9, 10, 11] rfl) (tz_mu c_63)
                    · exact absurd c_20 (by decide)
                  · obtain rfl : 0 = r_17 := (hw_18.trans (if_neg (fun z => hc_19 ((tz_in64 (by first | rfl | decide) rfl (by first | rfl | decide)).mp z)))).symm
                    refine lv_if_ne (tgt := 66) hx hb dX12_drawn_56 (by decide) (fun c_87 => ?_) (fun c_87 => ?_)
                    · exact absurd c_87 (by decide)
                    · refine lv_aload_n hx hb dX12_drawn_59 rfl (lv_at hl 0 rfl) ?_
                      refine lv_bipush (v := (-2)) hx hb dX12_drawn_60 (by decide) ?_
                      have hPc := hP.sub (ws' := [(mo, .inr (12, [.ref nw, .ref kp, .ref ik, .ref mr, .long la_, .long lb_, .ref mw, .long lc_, .int ti_, .int cb_, .long ld_, .long le_, .ref mq, .ref mz, .ref my, .int sm_, .ref mb, .int bl_, .int ta_, .int tl_, .int tk_, .int vl_, .ref mx, .ref mv])), (mr, .inl (cr_, 3, .inl fr_))]) [0, 1] rfl
                      have hDc := hD.sub (ws' := [(mo, .inr (12, [.ref nw, .ref kp, .ref ik, .ref mr, .long la_, .long lb_, .ref mw, .long lc_, .int ti_, .int cb_, .long ld_, .long le_, .ref mq, .ref mz, .ref my, .int sm_, .ref mb, .int bl_, .int ta_, .int tl_, .int tk_, .int vl_, .ref mx, .ref mv])), (mr, .inl (cr_, 3, .inl fr_))]) [0, 1] (by decide) rfl
                      have hKc := hK.sub (tys' := [(cr_, .int)]) [0] rfl
                      have hFc := va_free (wc := [(mo, .inr (12, [.ref nw, .ref kp, .ref ik, .ref mr, .long la_, .long lb_, .ref mw, .long lc_, .int ti_, .int cb_, .long ld_, .long le_, .ref mq, .ref mz, .ref my, .int sm_, .ref mb, .int bl_, .int ta_, .int tl_, .int tk_, .int vl_, .ref mx, .ref mv])), (mr, .inl (cr_, 3, .inl fr_))]) hD hS hA [0, 1] rfl
                      refine va_calli (va_runV (As := [.int (-2)]) (rest := []) ⟨hx, hb, hml, hown, hts⟩ (m_bad l dC dI mo nw kp ik mr la_ lb_ mw lc_ ti_ cb_ ld_ le_ mq mz my sm_ mb bl_ ta_ tl_ tk_ vl_ mx mv cr_ fr_ (-2) s.heap.size) (cwV 1 hts gX12_drawn_X12_bad rfl rfl rfl (by decide +kernel) ⟨Nat.le_of_ble_eq_true rfl, Nat.le_of_ble_eq_true rfl⟩) ⟨fun a U g mk q => by obtain ⟨q0, q1, qP, qK, qD⟩ := q; exact ⟨q0, q1, qP, va_K.moved (u := U) (U := U.calling g mk a) (Vm.Alike.refl U.vm) qK, qD⟩, va_recv hK hP (ci := 12) (q0 := 0) rfl rfl, fun U hU hW => ⟨rfl, by rw [hU], by rw [hU]; exact hPc, va_K.moved hW.alike hKc, hDc.weaken (fun _ _ _ _ => trivial)⟩⟩ rfl rfl hl.1 rfl (lv_room (Nat.le_of_ble_eq_true rfl)) dX12_drawn_62 ⟨Nat.le_of_ble_eq_true rfl, Nat.le_of_ble_eq_true rfl⟩) hS (fun q _ h => hFc q h) hFc (fun r_88 u_ t H1 locs ht hvm hw_89 hB hz1 hk1 hS => ?_)
                      obtain ⟨gr__90, hP1, hK1, hD1⟩ := hB
                      rw [ht] at hP1
                      have hK1 := va_K.moved hvm.symm hK1
                      obtain ⟨hP, hD⟩ := va_join (wr := []) (w1 := [(mo, .inr (12, [.ref nw, .ref kp, .ref ik, .ref mr, .long la_, .long lb_, .ref mw, .long lc_, .int ti_, .int cb_, .long ld_, .long le_, .ref mq, .ref mz, .ref my, .int sm_, .ref mb, .int bl_, .int ta_, .int tl_, .int tk_, .int vl_, .ref mx, .ref mv])), (mr, .inl (cr_, 3, .inl gr__90))]) hP hD [0, 1] [] rfl rfl (by decide) (by decide) hk1 hFc hP1 hD1
                      generalize H1 = H at hP hS ⊢
                      have hP : va_P (dC, dI) vwCl [(mo, .inr (12, [.ref nw, .ref kp, .ref ik, .ref mr, .long la_, .long lb_, .ref mw, .long lc_, .int ti_, .int cb_, .long ld_, .long le_, .ref mq, .ref mz, .ref my, .int sm_, .ref mb, .int bl_, .int ta_, .int tl_, .int tk_, .int vl_, .ref mx, .ref mv])), (mr, .inl (cr_, 3, .inl gr__90))] H := hP
                      have hD : va_D A [(mo, .inr (12, [.ref nw, .ref kp, .ref ik, .ref mr, .long la_, .long lb_, .ref mw, .long lc_, .int ti_, .int cb_, .long ld_, .long le_, .ref mq, .ref mz, .ref my, .int sm_, .ref mb, .int bl_, .int ta_, .int tl_, .int tk_, .int vl_, .ref mx, .ref mv])), (mr, .inl (cr_, 3, .inl gr__90))] := hD
                      obtain rfl : (-2) = r_88 := hw_89.symm
                      have hP9 := hP.sub (ws' := [(mo, .inr (12, [.ref nw, .ref kp, .ref ik, .ref mr, .long la_, .long lb_, .ref mw, .long lc_, .int ti_, .int cb_, .long ld_, .long le_, .ref mq, .ref mz, .ref my, .int sm_, .ref mb, .int bl_, .int ta_, .int tl_, .int tk_, .int vl_, .ref mx, .ref mv])), (mr, .inl (cr_, 3, .inl gr__90))]) [0, 1] rfl
                      have hD9 := hD.sub (ws' := [(mo, .inr (12, [.ref nw, .ref kp, .ref ik, .ref mr, .long la_, .long lb_, .ref mw, .long lc_, .int ti_, .int cb_, .long ld_, .long le_, .ref mq, .ref mz, .ref my, .int sm_, .ref mb, .int bl_, .int ta_, .int tl_, .int tk_, .int vl_, .ref mx, .ref mv])), (mr, .inl (cr_, 3, .inl gr__90))]) [0, 1] (by decide) rfl
                      have hK9 := hK.sub (tys' := [(cr_, .int)]) [0] rfl
                      exact W.iret (v := (-2)) hx hb hr (fun t ht hW => ⟨⟨(-2), (), rfl, trivial, gr__90, by rw [ht]; exact hP9, va_K.moved hW.alike hK9, hD9⟩, hS.F ht⟩) hS.2.2 dX12_drawn_65
              · obtain rfl : 0 = r_13 := (hw_14.trans (if_neg (fun z => hc_15 ((tz_in64 (by first | rfl | decide) rfl (by first | rfl | decide)).mp z)))).symm
                refine lv_if_eq (tgt := 59) hx hb dX12_drawn_43 (by decide) (fun c_91 => ?_) (fun c_91 => ?_)
                · refine lv_aload_n hx hb dX12_drawn_59 rfl (lv_at hl 0 rfl) ?_
                  refine lv_bipush (v := (-2)) hx hb dX12_drawn_60 (by decide) ?_
                  have hPc := hP.sub (ws' := [(mo, .inr (12, [.ref nw, .ref kp, .ref ik, .ref mr, .long la_, .long lb_, .ref mw, .long lc_, .int ti_, .int cb_, .long ld_, .long le_, .ref mq, .ref mz, .ref my, .int sm_, .ref mb, .int bl_, .int ta_, .int tl_, .int tk_, .int vl_, .ref mx, .ref mv])), (mr, .inl (cr_, 3, .inl fr_))]) [0, 1] rfl
                  have hDc := hD.sub (ws' := [(mo, .inr (12, [.ref nw, .ref kp, .ref ik, .ref mr, .long la_, .long lb_, .ref mw, .long lc_, .int ti_, .int cb_, .long ld_, .long le_, .ref mq, .ref mz, .ref my, .int sm_, .ref mb, .int bl_, .int ta_, .int tl_, .int tk_, .int vl_, .ref mx, .ref mv])), (mr, .inl (cr_, 3, .inl fr_))]) [0, 1] (by decide) rfl
                  have hKc := hK.sub (tys' := [(cr_, .int)]) [0] rfl
                  have hFc := va_free (wc := [(mo, .inr (12, [.ref nw, .ref kp, .ref ik, .ref mr, .long la_, .long lb_, .ref mw, .long lc_, .int ti_, .int cb_, .long ld_, .long le_, .ref mq, .ref mz, .ref my, .int sm_, .ref mb, .int bl_, .int ta_, .int tl_, .int tk_, .int vl_, .ref mx, .ref mv])), (mr, .inl (cr_, 3, .inl fr_))]) hD hS hA [0, 1] rfl
                  refine va_calli (va_runV (As := [.int (-2)]) (rest := []) ⟨hx, hb, hml, hown, hts⟩ (m_bad l dC dI mo nw kp ik mr la_ lb_ mw lc_ ti_ cb_ ld_ le_ mq mz my sm_ mb bl_ ta_ tl_ tk_ vl_ mx mv cr_ fr_ (-2) s.heap.size) (cwV 1 hts gX12_drawn_X12_bad rfl rfl rfl (by decide +kernel) ⟨Nat.le_of_ble_eq_true rfl, Nat.le_of_ble_eq_true rfl⟩) ⟨fun a U g mk q => by obtain ⟨q0, q1, qP, qK, qD⟩ := q; exact ⟨q0, q1, qP, va_K.moved (u := U) (U := U.calling g mk a) (Vm.Alike.refl U.vm) qK, qD⟩, va_recv hK hP (ci := 12) (q0 := 0) rfl rfl, fun U hU hW => ⟨rfl, by rw [hU], by rw [hU]; exact hPc, va_K.moved hW.alike hKc, hDc.weaken (fun _ _ _ _ => trivial)⟩⟩ rfl rfl hl.1 rfl (lv_room (Nat.le_of_ble_eq_true rfl)) dX12_drawn_62 ⟨Nat.le_of_ble_eq_true rfl, Nat.le_of_ble_eq_true rfl⟩) hS (fun q _ h => hFc q h) hFc (fun r_92 u_ t H1 locs ht hvm hw_93 hB hz1 hk1 hS => ?_)
                  obtain ⟨gr__94, hP1, hK1, hD1⟩ := hB
                  rw [ht] at hP1
                  have hK1 := va_K.moved hvm.symm hK1
                  obtain ⟨hP, hD⟩ := va_join (wr := []) (w1 := [(mo, .inr (12, [.ref nw, .ref kp, .ref ik, .ref mr, .long la_, .long lb_, .ref mw, .long lc_, .int ti_, .int cb_, .long ld_, .long le_, .ref mq, .ref mz, .ref my, .int sm_, .ref mb, .int bl_, .int ta_, .int tl_, .int tk_, .int vl_, .ref mx, .ref mv])), (mr, .inl (cr_, 3, .inl gr__94))]) hP hD [0, 1] [] rfl rfl (by decide) (by decide) hk1 hFc hP1 hD1
                  generalize H1 = H at hP hS ⊢
                  have hP : va_P (dC, dI) vwCl [(mo, .inr (12, [.ref nw, .ref kp, .ref ik, .ref mr, .long la_, .long lb_, .ref mw, .long lc_, .int ti_, .int cb_, .long ld_, .long le_, .ref mq, .ref mz, .ref my, .int sm_, .ref mb, .int bl_, .int ta_, .int tl_, .int tk_, .int vl_, .ref mx, .ref mv])), (mr, .inl (cr_, 3, .inl gr__94))] H := hP
                  have hD : va_D A [(mo, .inr (12, [.ref nw, .ref kp, .ref ik, .ref mr, .long la_, .long lb_, .ref mw, .long lc_, .int ti_, .int cb_, .long ld_, .long le_, .ref mq, .ref mz, .ref my, .int sm_, .ref mb, .int bl_, .int ta_, .int tl_, .int tk_, .int vl_, .ref mx, .ref mv])), (mr, .inl (cr_, 3, .inl gr__94))] := hD
                  obtain rfl : (-2) = r_92 := hw_93.symm
                  have hP9 := hP.sub (ws' := [(mo, .inr (12, [.ref nw, .ref kp, .ref ik, .ref mr, .long la_, .long lb_, .ref mw, .long lc_, .int ti_, .int cb_, .long ld_, .long le_, .ref mq, .ref mz, .ref my, .int sm_, .ref mb, .int bl_, .int ta_, .int tl_, .int tk_, .int vl_, .ref mx, .ref mv])), (mr, .inl (cr_, 3, .inl gr__94))]) [0, 1] rfl
                  have hD9 := hD.sub (ws' := [(mo, .inr (12, [.ref nw, .ref kp, .ref ik, .ref mr, .long la_, .long lb_, .ref mw, .long lc_, .int ti_, .int cb_, .long ld_, .long le_, .ref mq, .ref mz, .ref my, .int sm_, .ref mb, .int bl_, .int ta_, .int tl_, .int tk_, .int vl_, .ref mx, .ref mv])), (mr, .inl (cr_, 3, .inl gr__94))]) [0, 1] (by decide) rfl
                  have hK9 := hK.sub (tys' := [(cr_, .int)]) [0] rfl
                  exact W.iret (v := (-2)) hx hb hr (fun t ht hW => ⟨⟨(-2), (), rfl, trivial, gr__94, by rw [ht]; exact hP9, va_K.moved hW.alike hK9, hD9⟩, hS.F ht⟩) hS.2.2 dX12_drawn_65
                · exact absurd c_91 (by decide)
          · obtain rfl : 0 = r_9 := (hw_10.trans (if_neg (fun z => hc_11 ((tz_in64 (by first | rfl | decide) rfl (by first | rfl | decide)).mp z)))).symm
            refine lv_if_eq (tgt := 59) hx hb dX12_drawn_30 (by decide) (fun c_95 => ?_) (fun c_95 => ?_)
            · refine lv_aload_n hx hb dX12_drawn_59 rfl (lv_at hl 0 rfl) ?_
              refine lv_bipush (v := (-2)) hx hb dX12_drawn_60 (by decide) ?_
              have hPc := hP.sub (ws' := [(mo, .inr (12, [.ref nw, .ref kp, .ref ik, .ref mr, .long la_, .long lb_, .ref mw, .long lc_, .int ti_, .int cb_, .long ld_, .long le_, .ref mq, .ref mz, .ref my, .int sm_, .ref mb, .int bl_, .int ta_, .int tl_, .int tk_, .int vl_, .ref mx, .ref mv])), (mr, .inl (cr_, 3, .inl fr_))]) [0, 1] rfl
              have hDc := hD.sub (ws' := [(mo, .inr (12, [.ref nw, .ref kp, .ref ik, .ref mr, .long la_, .long lb_, .ref mw, .long lc_, .int ti_, .int cb_, .long ld_, .long le_, .ref mq, .ref mz, .ref my, .int sm_, .ref mb, .int bl_, .int ta_, .int tl_, .int tk_, .int vl_, .ref mx, .ref mv])), (mr, .inl (cr_, 3, .inl fr_))]) [0, 1] (by decide) rfl
              have hKc := hK.sub (tys' := [(cr_, .int)]) [0] rfl
              have hFc := va_free (wc := [(mo, .inr (12, [.ref nw, .ref kp, .ref ik, .ref mr, .long la_, .long lb_, .ref mw, .long lc_, .int ti_, .int cb_, .long ld_, .long le_, .ref mq, .ref mz, .ref my, .int sm_, .ref mb, .int bl_, .int ta_, .int tl_, .int tk_, .int vl_, .ref mx, .ref mv])), (mr, .inl (cr_, 3, .inl fr_))]) hD hS hA [0, 1] rfl
              refine va_calli (va_runV (As := [.int (-2)]) (rest := []) ⟨hx, hb, hml, hown, hts⟩ (m_bad l dC dI mo nw kp ik mr la_ lb_ mw lc_ ti_ cb_ ld_ le_ mq mz my sm_ mb bl_ ta_ tl_ tk_ vl_ mx mv cr_ fr_ (-2) s.heap.size) (cwV 1 hts gX12_drawn_X12_bad rfl rfl rfl (by decide +kernel) ⟨Nat.le_of_ble_eq_true rfl, Nat.le_of_ble_eq_true rfl⟩) ⟨fun a U g mk q => by obtain ⟨q0, q1, qP, qK, qD⟩ := q; exact ⟨q0, q1, qP, va_K.moved (u := U) (U := U.calling g mk a) (Vm.Alike.refl U.vm) qK, qD⟩, va_recv hK hP (ci := 12) (q0 := 0) rfl rfl, fun U hU hW => ⟨rfl, by rw [hU], by rw [hU]; exact hPc, va_K.moved hW.alike hKc, hDc.weaken (fun _ _ _ _ => trivial)⟩⟩ rfl rfl hl.1 rfl (lv_room (Nat.le_of_ble_eq_true rfl)) dX12_drawn_62 ⟨Nat.le_of_ble_eq_true rfl, Nat.le_of_ble_eq_true rfl⟩) hS (fun q _ h => hFc q h) hFc (fun r_96 u_ t H1 locs ht hvm hw_97 hB hz1 hk1 hS => ?_)
              obtain ⟨gr__98, hP1, hK1, hD1⟩ := hB
              rw [ht] at hP1
              have hK1 := va_K.moved hvm.symm hK1
              obtain ⟨hP, hD⟩ := va_join (wr := []) (w1 := [(mo, .inr (12, [.ref nw, .ref kp, .ref ik, .ref mr, .long la_, .long lb_, .ref mw, .long lc_, .int ti_, .int cb_, .long ld_, .long le_, .ref mq, .ref mz, .ref my, .int sm_, .ref mb, .int bl_, .int ta_, .int tl_, .int tk_, .int vl_, .ref mx, .ref mv])), (mr, .inl (cr_, 3, .inl gr__98))]) hP hD [0, 1] [] rfl rfl (by decide) (by decide) hk1 hFc hP1 hD1
              generalize H1 = H at hP hS ⊢
              have hP : va_P (dC, dI) vwCl [(mo, .inr (12, [.ref nw, .ref kp, .ref ik, .ref mr, .long la_, .long lb_, .ref mw, .long lc_, .int ti_, .int cb_, .long ld_, .long le_, .ref mq, .ref mz, .ref my, .int sm_, .ref mb, .int bl_, .int ta_, .int tl_, .int tk_, .int vl_, .ref mx, .ref mv])), (mr, .inl (cr_, 3, .inl gr__98))] H := hP
              have hD : va_D A [(mo, .inr (12, [.ref nw, .ref kp, .ref ik, .ref mr, .long la_, .long lb_, .ref mw, .long lc_, .int ti_, .int cb_, .long ld_, .long le_, .ref mq, .ref mz, .ref my, .int sm_, .ref mb, .int bl_, .int ta_, .int tl_, .int tk_, .int vl_, .ref mx, .ref mv])), (mr, .inl (cr_, 3, .inl gr__98))] := hD
              obtain rfl : (-2) = r_96 := hw_97.symm
              have hP9 := hP.sub (ws' := [(mo, .inr (12, [.ref nw, .ref kp, .ref ik, .ref mr, .long la_, .long lb_, .ref mw, .long lc_, .int ti_, .int cb_, .long ld_, .long le_, .ref mq, .ref mz, .ref my, .int sm_, .ref mb, .int bl_, .int ta_, .int tl_, .int tk_, .int vl_, .ref mx, .ref mv])), (mr, .inl (cr_, 3, .inl gr__98))]) [0, 1] rfl
              have hD9 := hD.sub (ws' := [(mo, .inr (12, [.ref nw, .ref kp, .ref ik, .ref mr, .long la_, .long lb_, .ref mw, .long lc_, .int ti_, .int cb_, .long ld_, .long le_, .ref mq, .ref mz, .ref my, .int sm_, .ref mb, .int bl_, .int ta_, .int tl_, .int tk_, .int vl_, .ref mx, .ref mv])), (mr, .inl (cr_, 3, .inl gr__98))]) [0, 1] (by decide) rfl
              have hK9 := hK.sub (tys' := [(cr_, .int)]) [0] rfl
              exact W.iret (v := (-2)) hx hb hr (fun t ht hW => ⟨⟨(-2), (), rfl, trivial, gr__98, by rw [ht]; exact hP9, va_K.moved hW.alike hK9, hD9⟩, hS.F ht⟩) hS.2.2 dX12_drawn_65
            · exact absurd c_95 (by decide)
      · obtain rfl : 0 = r_5 := (hw_6.trans (if_neg (fun z => hc_7 ((tz_in64 (by first | rfl | decide) rfl (by first | rfl | decide)).mp z)))).symm
        refine lv_if_eq (tgt := 59) hx hb dX12_drawn_18 (by decide) (fun c_99 => ?_) (fun c_99 => ?_)
        · refine lv_aload_n hx hb dX12_drawn_59 rfl (lv_at hl 0 rfl) ?_
          refine lv_bipush (v := (-2)) hx hb dX12_drawn_60 (by decide) ?_
          have hPc := hP.sub (ws' := [(mo, .inr (12, [.ref nw, .ref kp, .ref ik, .ref mr, .long la_, .long lb_, .ref mw, .long lc_, .int ti_, .int cb_, .long ld_, .long le_, .ref mq, .ref mz, .ref my, .int sm_, .ref mb, .int bl_, .int ta_, .int tl_, .int tk_, .int vl_, .ref mx, .ref mv])), (mr, .inl (cr_, 3, .inl fr_))]) [0, 1] rfl
          have hDc := hD.sub (ws' := [(mo, .inr (12, [.ref nw, .ref kp, .ref ik, .ref mr, .long la_, .long lb_, .ref mw, .long lc_, .int ti_, .int cb_, .long ld_, .long le_, .ref mq, .ref mz, .ref my, .int sm_, .ref mb, .int bl_, .int ta_, .int tl_, .int tk_, .int vl_, .ref mx, .ref mv])), (mr, .inl (cr_, 3, .inl fr_))]) [0, 1] (by decide) rfl
          have hKc := hK.sub (tys' := [(cr_, .int)]) [0] rfl
          have hFc := va_free (wc := [(mo, .inr (12, [.ref nw, .ref kp, .ref ik, .ref mr, .long la_, .long lb_, .ref mw, .long lc_, .int ti_, .int cb_, .long ld_, .long le_, .ref mq, .ref mz, .ref my, .int sm_, .ref mb, .int bl_, .int ta_, .int tl_, .int tk_, .int vl_, .ref mx, .ref mv])), (mr, .inl (cr_, 3, .inl fr_))]) hD hS hA [0, 1] rfl
          refine va_calli (va_runV (As := [.int (-2)]) (rest := []) ⟨hx, hb, hml, hown, hts⟩ (m_bad l dC dI mo nw kp ik mr la_ lb_ mw lc_ ti_ cb_ ld_ le_ mq mz my sm_ mb bl_ ta_ tl_ tk_ vl_ mx mv cr_ fr_ (-2) s.heap.size) (cwV 1 hts gX12_drawn_X12_bad rfl rfl rfl (by decide +kernel) ⟨Nat.le_of_ble_eq_true rfl, Nat.le_of_ble_eq_true rfl⟩) ⟨fun a U g mk q => by obtain ⟨q0, q1, qP, qK, qD⟩ := q; exact ⟨q0, q1, qP, va_K.moved (u := U) (U := U.calling g mk a) (Vm.Alike.refl U.vm) qK, qD⟩, va_recv hK hP (ci := 12) (q0 := 0) rfl rfl, fun U hU hW => ⟨rfl, by rw [hU], by rw [hU]; exact hPc, va_K.moved hW.alike hKc, hDc.weaken (fun _ _ _ _ => trivial)⟩⟩ rfl rfl hl.1 rfl (lv_room (Nat.le_of_ble_eq_true rfl)) dX12_drawn_62 ⟨Nat.le_of_ble_eq_true rfl, Nat.le_of_ble_eq_true rfl⟩) hS (fun q _ h => hFc q h) hFc (fun r_100 u_ t H1 locs ht hvm hw_101 hB hz1 hk1 hS => ?_)
          obtain ⟨gr__102, hP1, hK1, hD1⟩ := hB
          rw [ht] at hP1
          have hK1 := va_K.moved hvm.symm hK1
          obtain ⟨hP, hD⟩ := va_join (wr := []) (w1 := [(mo, .inr (12, [.ref nw, .ref kp, .ref ik, .ref mr, .long la_, .long lb_, .ref mw, .long lc_, .int ti_, .int cb_, .long ld_, .long le_, .ref mq, .ref mz, .ref my, .int sm_, .ref mb, .int bl_, .int ta_, .int tl_, .int tk_, .int vl_, .ref mx, .ref mv])), (mr, .inl (cr_, 3, .inl gr__102))]) hP hD [0, 1] [] rfl rfl (by decide) (by decide) hk1 hFc hP1 hD1
          generalize H1 = H at hP hS ⊢
          have hP : va_P (dC, dI) vwCl [(mo, .inr (12, [.ref nw, .ref kp, .ref ik, .ref mr, .long la_, .long lb_, .ref mw, .long lc_, .int ti_, .int cb_, .long ld_, .long le_, .ref mq, .ref mz, .ref my, .int sm_, .ref mb, .int bl_, .int ta_, .int tl_, .int tk_, .int vl_, .ref mx, .ref mv])), (mr, .inl (cr_, 3, .inl gr__102))] H := hP
          have hD : va_D A [(mo, .inr (12, [.ref nw, .ref kp, .ref ik, .ref mr, .long la_, .long lb_, .ref mw, .long lc_, .int ti_, .int cb_, .long ld_, .long le_, .ref mq, .ref mz, .ref my, .int sm_, .ref mb, .int bl_, .int ta_, .int tl_, .int tk_, .int vl_, .ref mx, .ref mv])), (mr, .inl (cr_, 3, .inl gr__102))] := hD
          obtain rfl : (-2) = r_100 := hw_101.symm
          have hP9 := hP.sub (ws' := [(mo, .inr (12, [.ref nw, .ref kp, .ref ik, .ref mr, .long la_, .long lb_, .ref mw, .long lc_, .int ti_, .int cb_, .long ld_, .long le_, .ref mq, .ref mz, .ref my, .int sm_, .ref mb, .int bl_, .int ta_, .int tl_, .int tk_, .int vl_, .ref mx, .ref mv])), (mr, .inl (cr_, 3, .inl gr__102))]) [0, 1] rfl
          have hD9 := hD.sub (ws' := [(mo, .inr (12, [.ref nw, .ref kp, .ref ik, .ref mr, .long la_, .long lb_, .ref mw, .long lc_, .int ti_, .int cb_, .long ld_, .long le_, .ref mq, .ref mz, .ref my, .int sm_, .ref mb, .int bl_, .int ta_, .int tl_, .int tk_, .int vl_, .ref mx, .ref mv])), (mr, .inl (cr_, 3, .inl gr__102))]) [0, 1] (by decide) rfl
          have hK9 := hK.sub (tys' := [(cr_, .int)]) [0] rfl
          exact W.iret (v := (-2)) hx hb hr (fun t ht hW => ⟨⟨(-2), (), rfl, trivial, gr__102, by rw [ht]; exact hP9, va_K.moved hW.alike hK9, hD9⟩, hS.F ht⟩) hS.2.2 dX12_drawn_65
        · exact absurd c_99 (by decide)
  · obtain rfl : 0 = r_1 := (hw_2.trans (if_neg hc_3)).symm
    refine lv_if_eq (tgt := 59) hx hb dX12_drawn_4 (by decide) (fun c_103 => ?_) (fun c_103 => ?_)
    · refine lv_aload_n hx hb dX12_drawn_59 rfl (lv_at hl 0 rfl) ?_
      refine lv_bipush (v := (-2)) hx hb dX12_drawn_60 (by decide) ?_
      have hPc := hP.sub (ws' := [(mo, .inr (12, [.ref nw, .ref kp, .ref ik, .ref mr, .long la_, .long lb_, .ref mw, .long lc_, .int ti_, .int cb_, .long ld_, .long le_, .ref mq, .ref mz, .ref my, .int sm_, .ref mb, .int bl_, .int ta_, .int tl_, .int tk_, .int vl_, .ref mx, .ref mv])), (mr, .inl (cr_, 3, .inl fr_))]) [0, 1] rfl
      have hDc := hD.sub (ws' := [(mo, .inr (12, [.ref nw, .ref kp, .ref ik, .ref mr, .long la_, .long lb_, .ref mw, .long lc_, .int ti_, .int cb_, .long ld_, .long le_, .ref mq, .ref mz, .ref my, .int sm_, .ref mb, .int bl_, .int ta_, .int tl_, .int tk_, .int vl_, .ref mx, .ref mv])), (mr, .inl (cr_, 3, .inl fr_))]) [0, 1] (by decide) rfl
      have hKc := hK.sub (tys' := [(cr_, .int)]) [0] rfl
      have hFc := va_free (wc := [(mo, .inr (12, [.ref nw, .ref kp, .ref ik, .ref mr, .long la_, .long lb_, .ref mw, .long lc_, .int ti_, .int cb_, .long ld_, .long le_, .ref mq, .ref mz, .ref my, .int sm_, .ref mb, .int bl_, .int ta_, .int tl_, .int tk_, .int vl_, .ref mx, .ref mv])), (mr, .inl (cr_, 3, .inl fr_))]) hD hS hA [0, 1] rfl
      refine va_calli (va_runV (As := [.int (-2)]) (rest := []) ⟨hx, hb, hml, hown, hts⟩ (m_bad l dC dI mo nw kp ik mr la_ lb_ mw lc_ ti_ cb_ ld_ le_ mq mz my sm_ mb bl_ ta_ tl_ tk_ vl_ mx mv cr_ fr_ (-2) s.heap.size) (cwV 1 hts gX12_drawn_X12_bad rfl rfl rfl (by decide +kernel) ⟨Nat.le_of_ble_eq_true rfl, Nat.le_of_ble_eq_true rfl⟩) ⟨fun a U g mk q => by obtain ⟨q0, q1, qP, qK, qD⟩ := q; exact ⟨q0, q1, qP, va_K.moved (u := U) (U := U.calling g mk a) (Vm.Alike.refl U.vm) qK, qD⟩, va_recv hK hP (ci := 12) (q0 := 0) rfl rfl, fun U hU hW => ⟨rfl, by rw [hU], by rw [hU]; exact hPc, va_K.moved hW.alike hKc, hDc.weaken (fun _ _ _ _ => trivial)⟩⟩ rfl rfl hl.1 rfl (lv_room (Nat.le_of_ble_eq_true rfl)) dX12_drawn_62 ⟨Nat.le_of_ble_eq_true rfl, Nat.le_of_ble_eq_true rfl⟩) hS (fun q _ h => hFc q h) hFc (fun r_104 u_ t H1 locs ht hvm hw_105 hB hz1 hk1 hS => ?_)
      obtain ⟨gr__106, hP1, hK1, hD1⟩ := hB
      rw [ht] at hP1
      have hK1 := va_K.moved hvm.symm hK1
      obtain ⟨hP, hD⟩ := va_join (wr := []) (w1 := [(mo, .inr (12, [.ref nw, .ref kp, .ref ik, .ref mr, .long la_, .long lb_, .ref mw, .long lc_, .int ti_, .int cb_, .long ld_, .long le_, .ref mq, .ref mz, .ref my, .int sm_, .ref mb, .int bl_, .int ta_, .int tl_, .int tk_, .int vl_, .ref mx, .ref mv])), (mr, .inl (cr_, 3, .inl gr__106))]) hP hD [0, 1] [] rfl rfl (by decide) (by decide) hk1 hFc hP1 hD1
      generalize H1 = H at hP hS ⊢
      have hP : va_P (dC, dI) vwCl [(mo, .inr (12, [.ref nw, .ref kp, .ref ik, .ref mr, .long la_, .long lb_, .ref mw, .long lc_, .int ti_, .int cb_, .long ld_, .long le_, .ref mq, .ref mz, .ref my, .int sm_, .ref mb, .int bl_, .int ta_, .int tl_, .int tk_, .int vl_, .ref mx, .ref mv])), (mr, .inl (cr_, 3, .inl gr__106))] H := hP
      have hD : va_D A [(mo, .inr (12, [.ref nw, .ref kp, .ref ik, .ref mr, .long la_, .long lb_, .ref mw, .long lc_, .int ti_, .int cb_, .long ld_, .long le_, .ref mq, .ref mz, .ref my, .int sm_, .ref mb, .int bl_, .int ta_, .int tl_, .int tk_, .int vl_, .ref mx, .ref mv])), (mr, .inl (cr_, 3, .inl gr__106))] := hD
      obtain rfl : (-2) = r_104 := hw_105.symm
      have hP9 := hP.sub (ws' := [(mo, .inr (12, [.ref nw, .ref kp, .ref ik, .ref mr, .long la_, .long lb_, .ref mw, .long lc_, .int ti_, .int cb_, .long ld_, .long le_, .ref mq, .ref mz, .ref my, .int sm_, .ref mb, .int bl_, .int ta_, .int tl_, .int tk_, .int vl_, .ref mx, .ref mv])), (mr, .inl (cr_, 3, .inl gr__106))]) [0, 1] rfl
      have hD9 := hD.sub (ws' := [(mo, .inr (12, [.ref nw, .ref kp, .ref ik, .ref mr, .long la_, .long lb_, .ref mw, .long lc_, .int ti_, .int cb_, .long ld_, .long le_, .ref mq, .ref mz, .ref my, .int sm_, .ref mb, .int bl_, .int ta_, .int tl_, .int tk_, .int vl_, .ref mx, .ref mv])), (mr, .inl (cr_, 3, .inl gr__106))]) [0, 1] (by decide) rfl
      have hK9 := hK.sub (tys' := [(cr_, .int)]) [0] rfl
      exact W.iret (v := (-2)) hx hb hr (fun t ht hW => ⟨⟨(-2), (), rfl, trivial, gr__106, by rw [ht]; exact hP9, va_K.moved hW.alike hK9, hD9⟩, hS.F ht⟩) hS.2.2 dX12_drawn_65
    · exact absurd c_103 (by decide)
set_option maxRecDepth 20000 in
theorem ggX12_type_X12_in : GoodIn wsX12_type wsX12_in := goodIn_r _ [7] (by decide +kernel) (by decide +kernel)
set_option maxRecDepth 20000 in
theorem gX12_type_X12_in : GoodIn wsX12_type (va_wsS RX12 49 yX12_in wsX12_in) := goodIn_app (goodIn_of _ (by decide +kernel)) ggX12_type_X12_in
set_option maxRecDepth 20000 in
theorem ggX12_type_X12_full : GoodIn wsX12_type wsX12_full := goodIn_r _ [16, 12, 17, 18, 19, 20, 21, 22, 23, 24, 25, 26, 27, 28, 29, 30, 31, 32, 33, 34, 35, 36, 37, 38, 39, 40] (by decide +kernel) (by decide +kernel)
set_option maxRecDepth 20000 in
theorem gX12_type_X12_full : GoodIn wsX12_type (wsV RX12 65 RX12 yX12_full wsX12_full) := goodIn_app (goodIn_of _ (by decide +kernel)) ggX12_type_X12_full
set_option maxRecDepth 20000 in
theorem ggX12_type_X12_bad : GoodIn wsX12_type wsX12_bad := goodIn_r _ [11, 12, 17, 18, 19, 20, 21, 22, 23, 24, 25, 26, 27, 28, 29, 30, 31, 32, 33, 34, 35, 36, 37, 38, 39, 40] (by decide +kernel) (by decide +kernel)
set_option maxRecDepth 20000 in
theorem gX12_type_X12_bad : GoodIn wsX12_type (wsV RX12 61 RX12 yX12_bad wsX12_bad) := goodIn_app (goodIn_of _ (by decide +kernel)) ggX12_type_X12_bad
theorem dX12_type_0 : decode cX12_type 0 = .ok (.iload_n 1, 1) := by decide +kernel
theorem dX12_type_1 : decode cX12_type 1 = .ok (.i2l, 1) := by decide +kernel
theorem dX12_type_2 : decode cX12_type 2 = .ok (.lconst 0, 1) := by decide +kernel
theorem dX12_type_3 : decode cX12_type 3 = .ok (.ldc2_w 251, 3) := by decide +kernel
theorem dX12_type_6 : decode cX12_type 6 = .ok (.invokestatic 49, 3) := by decide +kernel
theorem dX12_type_9 : decode cX12_type 9 = .ok (.ifCond .ne 10, 3) := by decide +kernel
theorem dX12_type_19 : decode cX12_type 19 = .ok (.aload_n 0, 1) := by decide +kernel
theorem dX12_type_20 : decode cX12_type 20 = .ok (.getfield 253, 3) := by decide +kernel
theorem dX12_type_23 : decode cX12_type 23 = .ok (.sipush 150, 3) := by decide +kernel
theorem dX12_type_26 : decode cX12_type 26 = .ok (.if_icmp .ne 8, 3) := by decide +kernel
theorem dX12_type_34 : decode cX12_type 34 = .ok (.aload_n 0, 1) := by decide +kernel
theorem dX12_type_35 : decode cX12_type 35 = .ok (.getfield 40, 3) := by decide +kernel
theorem dX12_type_38 : decode cX12_type 38 = .ok (.aload_n 0, 1) := by decide +kernel
theorem dX12_type_39 : decode cX12_type 39 = .ok (.getfield 253, 3) := by decide +kernel
theorem dX12_type_42 : decode cX12_type 42 = .ok (.iload_n 1, 1) := by decide +kernel
theorem dX12_type_43 : decode cX12_type 43 = .ok (.iastore, 1) := by decide +kernel
theorem dX12_type_44 : decode cX12_type 44 = .ok (.aload_n 0, 1) := by decide +kernel
theorem dX12_type_45 : decode cX12_type 45 = .ok (.dup, 1) := by decide +kernel
theorem dX12_type_46 : decode cX12_type 46 = .ok (.getfield 253, 3) := by decide +kernel
theorem dX12_type_49 : decode cX12_type 49 = .ok (.iconst 1, 1) := by decide +kernel
theorem dX12_type_50 : decode cX12_type 50 = .ok (.iadd, 1) := by decide +kernel
theorem dX12_type_51 : decode cX12_type 51 = .ok (.putfield 253, 3) := by decide +kernel
theorem dX12_type_54 : decode cX12_type 54 = .ok (.aload_n 0, 1) := by decide +kernel
theorem dX12_type_55 : decode cX12_type 55 = .ok (.getfield 253, 3) := by decide +kernel
theorem dX12_type_58 : decode cX12_type 58 = .ok (.ireturn, 1) := by decide +kernel
theorem dX12_type_29 : decode cX12_type 29 = .ok (.aload_n 0, 1) := by decide +kernel
theorem dX12_type_30 : decode cX12_type 30 = .ok (.invokevirtual 65, 3) := by decide +kernel
theorem dX12_type_33 : decode cX12_type 33 = .ok (.ireturn, 1) := by decide +kernel
theorem dX12_type_12 : decode cX12_type 12 = .ok (.aload_n 0, 1) := by decide +kernel
theorem dX12_type_13 : decode cX12_type 13 = .ok (.bipush (-2), 2) := by decide +kernel
theorem dX12_type_15 : decode cX12_type 15 = .ok (.invokevirtual 61, 3) := by decide +kernel
theorem dX12_type_18 : decode cX12_type 18 = .ok (.ireturn, 1) := by decide +kernel
set_option maxRecDepth 20000 in
theorem iw_m_type_X12 : ∀ w ∈ wsX120, w ∈ wsX12_type := by decide +kernel
set_option maxHeartbeats 4000000 in
set_option maxRecDepth 100000 in
theorem m_type (l : Launch) (dC : Nat → ClassId) (dI : Nat → Nat → Nat) (mo : Nat) (nw : Nat) (kp : Nat) (ik : Nat) (mr : Nat) (la_ : Int64) (lb_ : Int64) (mw : Nat) (lc_ : Int64) (ti_ : Int32) (cb_ : Int32) (ld_ : Int64) (le_ : Int64) (mq : Nat) (mz : Nat) (my : Nat) (sm_ : Int32) (mb : Nat) (jb : Nat) (ta_ : Int32) (tl_ : Int32) (tk_ : Int32) (vl_ : Int32) (mx : Nat) (mv : Nat) (cr_ : ClassId) (fr_ : Nat → Int32) (cb2_ : ClassId) (fy_ : Nat → Int32) (na : Int32) (sz : Nat) (hjb : jb ≤ 150) : Met l yX12_type wsX12_type ({ frames := 1, cells := 0, slots := 0, locals := 25 }) (va_Pc [.ref mo, .int na] (fun U => U.heap.size = sz ∧ va_P (dC, dI) vwCl [(mo, .inr (12, [.ref nw, .ref kp, .ref ik, .ref mr, .long la_, .long lb_, .ref mw, .long lc_, .int ti_, .int cb_, .long ld_, .long le_, .ref mq, .ref mz, .ref my, .int sm_, .ref mb, .int (nI jb), .int ta_, .int tl_, .int tk_, .int vl_, .ref mx, .ref mv])), (mr, .inl (cr_, 3, .inl fr_)), (mb, .inl (cb2_, 150, .inl fy_))] U.heap ∧ va_K (dC, dI) vwCl [(cr_, .int), (cb2_, .int)] U ∧ va_D (fun _ => True) [(mo, .inr (12, [.ref nw, .ref kp, .ref ik, .ref mr, .long la_, .long lb_, .ref mw, .long lc_, .int ti_, .int cb_, .long ld_, .long le_, .ref mq, .ref mz, .ref my, .int sm_, .ref mb, .int (nI jb), .int ta_, .int tl_, .int tk_, .int vl_, .ref mx, .ref mv])), (mr, .inl (cr_, 3, .inl fr_)), (mb, .inl (cb2_, 150, .inl fy_))])) (va_Qi (fun (r : Int32) (_ : Unit) => True) (fun _ t => ∃ (gr_ : Nat → Int32) (gy_ : Nat → Int32) (gb : Nat), (gb ≤ 150) ∧ va_P (dC, dI) vwCl [(mo, .inr (12, [.ref nw, .ref kp, .ref ik, .ref mr, .long la_, .long lb_, .ref mw, .long lc_, .int ti_, .int cb_, .long ld_, .long le_, .ref mq, .ref mz, .ref my, .int sm_, .ref mb, .int (nI gb), .int ta_, .int tl_, .int tk_, .int vl_, .ref mx, .ref mv])), (mr, .inl (cr_, 3, .inl gr_)), (mb, .inl (cb2_, 150, .inl gy_))] t.heap ∧ va_K (dC, dI) vwCl [(cr_, .int), (cb2_, .int)] t ∧ va_D (va_A [(mo, .inr (12, [.ref nw, .ref kp, .ref ik, .ref mr, .long la_, .long lb_, .ref mw, .long lc_, .int ti_, .int cb_, .long ld_, .long le_, .ref mq, .ref mz, .ref my, .int sm_, .ref mb, .int (nI jb), .int ta_, .int tl_, .int tk_, .int vl_, .ref mx, .ref mv])), (mr, .inl (cr_, 3, .inl fr_)), (mb, .inl (cb2_, 150, .inl fy_))] sz) [(mo, .inr (12, [.ref nw, .ref kp, .ref ik, .ref mr, .long la_, .long lb_, .ref mw, .long lc_, .int ti_, .int cb_, .long ld_, .long le_, .ref mq, .ref mz, .ref my, .int sm_, .ref mb, .int (nI gb), .int ta_, .int tl_, .int tk_, .int vl_, .ref mx, .ref mv])), (mr, .inl (cr_, 3, .inl gr_)), (mb, .inl (cb2_, 150, .inl gy_))]) (va_A [(mo, .inr (12, [.ref nw, .ref kp, .ref ik, .ref mr, .long la_, .long lb_, .ref mw, .long lc_, .int ti_, .int cb_, .long ld_, .long le_, .ref mq, .ref mz, .ref my, .int sm_, .ref mb, .int (nI jb), .int ta_, .int tl_, .int tk_, .int vl_, .ref mx, .ref mv])), (mr, .inl (cr_, 3, .inl fr_)), (mb, .inl (cb2_, 150, .inl fy_))] sz)) 0 0 (va_A [(mo, .inr (12, [.ref nw, .ref kp, .ref ik, .ref mr, .long la_, .long lb_, .ref mw, .long lc_, .int ti_, .int cb_, .long ld_, .long le_, .ref mq, .ref mz, .ref my, .int sm_, .ref mb, .int (nI jb), .int ta_, .int tl_, .int tk_, .int vl_, .ref mx, .ref mv])), (mr, .inl (cr_, 3, .inl fr_)), (mb, .inl (cb2_, 150, .inl fy_))] sz) := by
  refine Met.ofW (cc := cX12_type) (maxL := 2) (ret := (some .int)) (by decide) rfl ?_
  intro p e s m args below meth c s₁ B hml hv
  obtain ⟨rfl, hsz, hP, hK, hD0⟩ := hv
  have hx := B.exec
  have hb := B.bytes
  have hr := B.returns
  have hts := atoms_spec (ws := wsX12_type) B.pre
  have hown : s.vm.findClass RX12 = some m.cls := findClass_of_methodNamed B.named
  have hlocks := B.notSynchronized
  subst hsz
  have hD := hD0.self (sz := s.heap.size)
  generalize hAe : va_A [(mo, .inr (12, [.ref nw, .ref kp, .ref ik, .ref mr, .long la_, .long lb_, .ref mw, .long lc_, .int ti_, .int cb_, .long ld_, .long le_, .ref mq, .ref mz, .ref my, .int sm_, .ref mb, .int (nI jb), .int ta_, .int tl_, .int tk_, .int vl_, .ref mx, .ref mv])), (mr, .inl (cr_, 3, .inl fr_)), (mb, .inl (cb2_, 150, .inl fy_))] s.heap.size = A at hD ⊢
  have hA : ∀ q : Nat, s.heap.size ≤ q → A q := fun q h => by rw [← hAe]; exact Or.inr h
  have hS : va_S A s.heap s.heap [] := va_S.rf
  have hP : va_P (dC, dI) vwCl [(mo, .inr (12, [.ref nw, .ref kp, .ref ik, .ref mr, .long la_, .long lb_, .ref mw, .long lc_, .int ti_, .int cb_, .long ld_, .long le_, .ref mq, .ref mz, .ref my, .int sm_, .ref mb, .int (nI jb), .int ta_, .int tl_, .int tk_, .int vl_, .ref mx, .ref mv])), (mr, .inl (cr_, 3, .inl fr_)), (mb, .inl (cb2_, 150, .inl fy_))] s.heap := hP
  have hl := lv_entry ([.ref mo, .int na]) (n := 2) (Nat.le_of_ble_eq_true rfl)
  rw [lg_entry_eq]
  generalize (lg_sl ([.ref mo, .int na]) ++ List.replicate (2 - (lg_sl ([.ref mo, .int na])).length) Slot.unset).toArray = ls at hl ⊢
  have hl : lv_has ls 2 [(0, .ref mo), (1, .int na)] := hl
  refine lv_iload_n hx hb dX12_type_0 rfl (lv_at hl 1 rfl) ?_
  refine lv_i2l (v := na.toInt64) hx hb dX12_type_1 rfl ?_
  refine lv_lconst (v := 0) hx hb dX12_type_2 (by decide) ?_
  refine lv_ldc2 hx hb hown (hts (.constantLong RX12 251 (127)) (by decide +kernel)) dX12_type_3 ?_
  refine vp_callSi (va_Run.run (va_runS (As := [.long na.toInt64, .long 0, .long 127]) (rest := []) ⟨hx, hb, hml, hown, hts⟩ (m_in l dC dI na.toInt64 0 127) (va_cwS 3 hts gX12_type_X12_in rfl rfl rfl (by decide +kernel) ⟨Nat.le_of_ble_eq_true rfl, Nat.le_of_ble_eq_true rfl⟩) ⟨fun a U g mk q => ⟨q.1, trivial⟩, fun U hU hW => ⟨rfl, trivial⟩⟩ rfl rfl hl.1 rfl (lv_room (Nat.le_of_ble_eq_true rfl)) dX12_type_6 ⟨Nat.le_of_ble_eq_true rfl, Nat.le_of_ble_eq_true rfl⟩)) (fun r_1 hw_2 => ?_)
  by_cases hc_3 : 0 ≤ na ∧ na ≤ 127
  · obtain rfl : 1 = r_1 := (hw_2.trans (if_pos ((tz_in64 (by first | rfl | decide) rfl (by first | rfl | decide)).mpr hc_3))).symm
    refine lv_if_ne (tgt := 19) hx hb dX12_type_9 (by decide) (fun c_4 => ?_) (fun c_4 => ?_)
    · refine lv_aload_n hx hb dX12_type_19 rfl (lv_at hl 0 rfl) ?_
      refine va_get (D := (dC, dI)) (ci := 12) (v := .int (nI jb)) (C := RX12) (T := TX12) (N := 24) hx hb hts iw_m_type_X12 hown hK hP 0 rfl rfl 17 (by decide) (hts (.fieldLink RX12 253 "ThriceCountedModel" "bytesLong" "I") (by decide +kernel)) (fun _ h9 => h9) rfl dX12_type_20 ?_
      refine lv_sipush (v := 150) hx hb dX12_type_23 (by decide) ?_
      refine lv_icmp_ne (tgt := 34) hx hb dX12_type_26 (by decide) (fun c_5 => ?_) (fun c_5 => ?_)
      · have hn_6 : ¬ jb = 150 := fun q => c_5 ((nI_eq (a := jb) (b := 150) (by omega) (by omega)).mpr q)
        refine lv_aload_n hx hb dX12_type_34 rfl (lv_at hl 0 rfl) ?_
        refine va_get (D := (dC, dI)) (ci := 12) (v := .ref mb) (C := RX12) (T := TX12) (N := 24) hx hb hts iw_m_type_X12 hown hK hP 0 rfl rfl 16 (by decide) (hts (.fieldLink RX12 40 "ThriceCountedModel" "bytes" "[I") (by decide +kernel)) (fun _ h9 => h9) rfl dX12_type_35 ?_
        refine lv_aload_n hx hb dX12_type_38 rfl (lv_at hl 0 rfl) ?_
        refine va_get (D := (dC, dI)) (ci := 12) (v := .int (nI jb)) (C := RX12) (T := TX12) (N := 24) hx hb hts iw_m_type_X12 hown hK hP 0 rfl rfl 17 (by decide) (hts (.fieldLink RX12 253 "ThriceCountedModel" "bytesLong" "I") (by decide +kernel)) (fun _ h9 => h9) rfl dX12_type_39 ?_
        refine lv_iload_n hx hb dX12_type_42 rfl (lv_at hl 1 rfl) ?_
        refine va_iast hx hb hK hP hD hS 2 1 rfl rfl (vp_in_nI (n := jb) (N := 150) (by omega) (by decide)) dX12_type_43 (fun H locs hP hD hS => ?_)
        generalize (upd fy_ (Int32.toNatClampNeg (nI jb)) na) = f_7 at hP hD
        have hP : va_P (dC, dI) vwCl [(mo, .inr (12, [.ref nw, .ref kp, .ref ik, .ref mr, .long la_, .long lb_, .ref mw, .long lc_, .int ti_, .int cb_, .long ld_, .long le_, .ref mq, .ref mz, .ref my, .int sm_, .ref mb, .int (nI jb), .int ta_, .int tl_, .int tk_, .int vl_, .ref mx, .ref mv])), (mr, .inl (cr_, 3, .inl fr_)), (mb, .inl (cb2_, 150, .inl f_7))] H := hP
        have hD : va_D A [(mo, .inr (12, [.ref nw, .ref kp, .ref ik, .ref mr, .long la_, .long lb_, .ref mw, .long lc_, .int ti_, .int cb_, .long ld_, .long le_, .ref mq, .ref mz, .ref my, .int sm_, .ref mb, .int (nI jb), .int ta_, .int tl_, .int tk_, .int vl_, .ref mx, .ref mv])), (mr, .inl (cr_, 3, .inl fr_)), (mb, .inl (cb2_, 150, .inl f_7))] := hD
        refine lv_aload_n hx hb dX12_type_44 rfl (lv_at hl 0 rfl) ?_
        refine lv_dup hx hb dX12_type_45 rfl ?_
        refine va_get (D := (dC, dI)) (ci := 12) (v := .int (nI jb)) (C := RX12) (T := TX12) (N := 24) hx hb hts iw_m_type_X12 hown hK hP 0 rfl rfl 17 (by decide) (hts (.fieldLink RX12 253 "ThriceCountedModel" "bytesLong" "I") (by decide +kernel)) (fun _ h9 => h9) rfl dX12_type_46 ?_
        refine lv_iconst (v := 1) hx hb dX12_type_49 (by decide) ?_
        refine lv_iadd hx hb dX12_type_50 ?_
        refine tz_i (nI (jb + 1)) (nI_add jb 1) ?_
        refine va_put (D := (dC, dI)) (ci := 12) (v := .int (nI (jb + 1))) (ty := .int) (C := RX12) (T := TX12) (N := 24) hx hb hts iw_m_type_X12 tyX12 tyX12_ok nmX12 hown hK hP hD hS 0 rfl rfl 17 (by decide) (hts (.fieldLink RX12 253 "ThriceCountedModel" "bytesLong" "I") (by decide +kernel)) (fun _ h9 => h9) rfl (by decide +kernel) rfl rfl (Nat.le_of_ble_eq_true rfl) dX12_type_51 (fun H locs hP hD hS => ?_)
        have hP : va_P (dC, dI) vwCl [(mo, .inr (12, [.ref nw, .ref kp, .ref ik, .ref mr, .long la_, .long lb_, .ref mw, .long lc_, .int ti_, .int cb_, .long ld_, .long le_, .ref mq, .ref mz, .ref my, .int sm_, .ref mb, .int (nI (jb + 1)), .int ta_, .int tl_, .int tk_, .int vl_, .ref mx, .ref mv])), (mr, .inl (cr_, 3, .inl fr_)), (mb, .inl (cb2_, 150, .inl f_7))] H := hP
        have hD : va_D A [(mo, .inr (12, [.ref nw, .ref kp, .ref ik, .ref mr, .long la_, .long lb_, .ref mw, .long lc_, .int ti_, .int cb_, .long ld_, .long le_, .ref mq, .ref mz, .ref my, .int sm_, .ref mb, .int (nI (jb + 1)), .int ta_, .int tl_, .int tk_, .int vl_, .ref mx, .ref mv])), (mr, .inl (cr_, 3, .inl fr_)), (mb, .inl (cb2_, 150, .inl f_7))] := hD
        refine lv_aload_n hx hb dX12_type_54 rfl (lv_at hl 0 rfl) ?_
        refine va_get (D := (dC, dI)) (ci := 12) (v := .int (nI (jb + 1))) (C := RX12) (T := TX12) (N := 24) hx hb hts iw_m_type_X12 hown hK hP 0 rfl rfl 17 (by decide) (hts (.fieldLink RX12 253 "ThriceCountedModel" "bytesLong" "I") (by decide +kernel)) (fun _ h9 => h9) rfl dX12_type_55 ?_
        have hP9 := hP.sub (ws' := [(mo, .inr (12, [.ref nw, .ref kp, .ref ik, .ref mr, .long la_, .long lb_, .ref mw, .long lc_, .int ti_, .int cb_, .long ld_, .long le_, .ref mq, .ref mz, .ref my, .int sm_, .ref mb, .int (nI (jb + 1)), .int ta_, .int tl_, .int tk_, .int vl_, .ref mx, .ref mv])), (mr, .inl (cr_, 3, .inl fr_)), (mb, .inl (cb2_, 150, .inl f_7))]) [0, 1, 2] rfl
        have hD9 := hD.sub (ws' := [(mo, .inr (12, [.ref nw, .ref kp, .ref ik, .ref mr, .long la_, .long lb_, .ref mw, .long lc_, .int ti_, .int cb_, .long ld_, .long le_, .ref mq, .ref mz, .ref my, .int sm_, .ref mb, .int (nI (jb + 1)), .int ta_, .int tl_, .int tk_, .int vl_, .ref mx, .ref mv])), (mr, .inl (cr_, 3, .inl fr_)), (mb, .inl (cb2_, 150, .inl f_7))]) [0, 1, 2] (by decide) rfl
        have hK9 := hK.sub (tys' := [(cr_, .int), (cb2_, .int)]) [0, 1] rfl
        exact W.iret (v := (nI (jb + 1))) hx hb hr (fun t ht hW => ⟨⟨(nI (jb + 1)), (), rfl, trivial, fr_, f_7, (jb + 1), by omega, by rw [ht]; exact hP9, va_K.moved hW.alike hK9, hD9⟩, hS.F ht⟩) hS.2.2 dX12_type_58
      · have hn_8 : jb = 150 := (nI_eq (a := jb) (b := 150) (by omega) (by omega)).mp c_5
        refine lv_aload_n hx hb dX12_type_29 rfl (lv_at hl 0 rfl) ?_
        have hPc := hP.sub (ws' := [(mo, .inr (12, [.ref nw, .ref kp, .ref ik, .ref mr, .long la_, .long lb_, .ref mw, .long lc_, .int ti_, .int cb_, .long ld_, .long le_, .ref mq, .ref mz, .ref my, .int sm_, .ref mb, .int (nI jb), .int ta_, .int tl_, .int tk_, .int vl_, .ref mx, .ref mv])), (mr, .inl (cr_, 3, .inl fr_))]) [0, 1] rfl
        have hDc := hD.sub (ws' := [(mo, .inr (12, [.ref nw, .ref kp, .ref ik, .ref mr, .long la_, .long lb_, .ref mw, .long lc_, .int ti_, .int cb_, .long ld_, .long le_, .ref mq, .ref mz, .ref my, .int sm_, .ref mb, .int (nI jb), .int ta_, .int tl_, .int tk_, .int vl_, .ref mx, .ref mv])), (mr, .inl (cr_, 3, .inl fr_))]) [0, 1] (by decide) rfl
        have hKc := hK.sub (tys' := [(cr_, .int)]) [0] rfl
        have hFc := va_free (wc := [(mo, .inr (12, [.ref nw, .ref kp, .ref ik, .ref mr, .long la_, .long lb_, .ref mw, .long lc_, .int ti_, .int cb_, .long ld_, .long le_, .ref mq, .ref mz, .ref my, .int sm_, .ref mb, .int (nI jb), .int ta_, .int tl_, .int tk_, .int vl_, .ref mx, .ref mv])), (mr, .inl (cr_, 3, .inl fr_))]) hD hS hA [0, 1] rfl
        refine va_calli (va_runV (As := []) (rest := []) ⟨hx, hb, hml, hown, hts⟩ (m_full l dC dI mo nw kp ik mr la_ lb_ mw lc_ ti_ cb_ ld_ le_ mq mz my sm_ mb (nI jb) ta_ tl_ tk_ vl_ mx mv cr_ fr_ s.heap.size) (cwV 0 hts gX12_type_X12_full rfl rfl rfl (by decide +kernel) ⟨Nat.le_of_ble_eq_true rfl, Nat.le_of_ble_eq_true rfl⟩) ⟨fun a U g mk q => by obtain ⟨q0, q1, qP, qK, qD⟩ := q; exact ⟨q0, q1, qP, va_K.moved (u := U) (U := U.calling g mk a) (Vm.Alike.refl U.vm) qK, qD⟩, va_recv hK hP (ci := 12) (q0 := 0) rfl rfl, fun U hU hW => ⟨rfl, by rw [hU], by rw [hU]; exact hPc, va_K.moved hW.alike hKc, hDc.weaken (fun _ _ _ _ => trivial)⟩⟩ rfl rfl hl.1 rfl (lv_room (Nat.le_of_ble_eq_true rfl)) dX12_type_30 ⟨Nat.le_of_ble_eq_true rfl, Nat.le_of_ble_eq_true rfl⟩) hS (fun q _ h => hFc q h) hFc (fun r_9 u_ t H1 locs ht hvm hw_10 hB hz1 hk1 hS => ?_)
        obtain ⟨gr__11, hP1, hK1, hD1⟩ := hB
        rw [ht] at hP1
        have hK1 := va_K.moved hvm.symm hK1
        obtain ⟨hP, hD⟩ := va_join (wr := [(mb, .inl (cb2_, 150, .inl fy_))]) (w1 := [(mo, .inr (12, [.ref nw, .ref kp, .ref ik, .ref mr, .long la_, .long lb_, .ref mw, .long lc_, .int ti_, .int cb_, .long ld_, .long le_, .ref mq, .ref mz, .ref my, .int sm_, .ref mb, .int (nI jb), .int ta_, .int tl_, .int tk_, .int vl_, .ref mx, .ref mv])), (mr, .inl (cr_, 3, .inl gr__11))]) hP hD [0, 1] [2] rfl rfl (by decide) (by decide) hk1 hFc hP1 hD1
        generalize H1 = H at hP hS ⊢
        have hP : va_P (dC, dI) vwCl [(mb, .inl (cb2_, 150, .inl fy_)), (mo, .inr (12, [.ref nw, .ref kp, .ref ik, .ref mr, .long la_, .long lb_, .ref mw, .long lc_, .int ti_, .int cb_, .long ld_, .long le_, .ref mq, .ref mz, .ref my, .int sm_, .ref mb, .int (nI jb), .int ta_, .int tl_, .int tk_, .int vl_, .ref mx, .ref mv])), (mr, .inl (cr_, 3, .inl gr__11))] H := hP
        have hD : va_D A [(mb, .inl (cb2_, 150, .inl fy_)), (mo, .inr (12, [.ref nw, .ref kp, .ref ik, .ref mr, .long la_, .long lb_, .ref mw, .long lc_, .int ti_, .int cb_, .long ld_, .long le_, .ref mq, .ref mz, .ref my, .int sm_, .ref mb, .int (nI jb), .int ta_, .int tl_, .int tk_, .int vl_, .ref mx, .ref mv])), (mr, .inl (cr_, 3, .inl gr__11))] := hD
        obtain rfl : (-4) = r_9 := hw_10.symm
        have hP9 := hP.sub (ws' := [(mo, .inr (12, [.ref nw, .ref kp, .ref ik, .ref mr, .long la_, .long lb_, .ref mw, .long lc_, .int ti_, .int cb_, .long ld_, .long le_, .ref mq, .ref mz, .ref my, .int sm_, .ref mb, .int (nI jb), .int ta_, .int tl_, .int tk_, .int vl_, .ref mx, .ref mv])), (mr, .inl (cr_, 3, .inl gr__11)), (mb, .inl (cb2_, 150, .inl fy_))]) [1, 2, 0] rfl
        have hD9 := hD.sub (ws' := [(mo, .inr (12, [.ref nw, .ref kp, .ref ik, .ref mr, .long la_, .long lb_, .ref mw, .long lc_, .int ti_, .int cb_, .long ld_, .long le_, .ref mq, .ref mz, .ref my, .int sm_, .ref mb, .int (nI jb), .int ta_, .int tl_, .int tk_, .int vl_, .ref mx, .ref mv])), (mr, .inl (cr_, 3, .inl gr__11)), (mb, .inl (cb2_, 150, .inl fy_))]) [1, 2, 0] (by decide) rfl
        have hK9 := hK.sub (tys' := [(cr_, .int), (cb2_, .int)]) [0, 1] rfl
        exact W.iret (v := (-4)) hx hb hr (fun t ht hW => ⟨⟨(-4), (), rfl, trivial, gr__11, fy_, jb, hjb, by rw [ht]; exact hP9, va_K.moved hW.alike hK9, hD9⟩, hS.F ht⟩) hS.2.2 dX12_type_33
    · exact absurd c_4 (by decide)
  · obtain rfl : 0 = r_1 := (hw_2.trans (if_neg (fun z => hc_3 ((tz_in64 (by first | rfl | decide) rfl (by first | rfl | decide)).mp z)))).symm
    refine lv_if_ne (tgt := 19) hx hb dX12_type_9 (by decide) (fun c_12 => ?_) (fun c_12 => ?_)
    · exact absurd c_12 (by decide)
    · refine lv_aload_n hx hb dX12_type_12 rfl (lv_at hl 0 rfl) ?_
      refine lv_bipush (v := (-2)) hx hb dX12_type_13 (by decide) ?_
      have hPc := hP.sub (ws' := [(mo, .inr (12, [.ref nw, .ref kp, .ref ik, .ref mr, .long la_, .long lb_, .ref mw, .long lc_, .int ti_, .int cb_, .long ld_, .long le_, .ref mq, .ref mz, .ref my, .int sm_, .ref mb, .int (nI jb), .int ta_, .int tl_, .int tk_, .int vl_, .ref mx, .ref mv])), (mr, .inl (cr_, 3, .inl fr_))]) [0, 1] rfl
      have hDc := hD.sub (ws' := [(mo, .inr (12, [.ref nw, .ref kp, .ref ik, .ref mr, .long la_, .long lb_, .ref mw, .long lc_, .int ti_, .int cb_, .long ld_, .long le_, .ref mq, .ref mz, .ref my, .int sm_, .ref mb, .int (nI jb), .int ta_, .int tl_, .int tk_, .int vl_, .ref mx, .ref mv])), (mr, .inl (cr_, 3, .inl fr_))]) [0, 1] (by decide) rfl
      have hKc := hK.sub (tys' := [(cr_, .int)]) [0] rfl
      have hFc := va_free (wc := [(mo, .inr (12, [.ref nw, .ref kp, .ref ik, .ref mr, .long la_, .long lb_, .ref mw, .long lc_, .int ti_, .int cb_, .long ld_, .long le_, .ref mq, .ref mz, .ref my, .int sm_, .ref mb, .int (nI jb), .int ta_, .int tl_, .int tk_, .int vl_, .ref mx, .ref mv])), (mr, .inl (cr_, 3, .inl fr_))]) hD hS hA [0, 1] rfl
      refine va_calli (va_runV (As := [.int (-2)]) (rest := []) ⟨hx, hb, hml, hown, hts⟩ (m_bad l dC dI mo nw kp ik mr la_ lb_ mw lc_ ti_ cb_ ld_ le_ mq mz my sm_ mb (nI jb) ta_ tl_ tk_ vl_ mx mv cr_ fr_ (-2) s.heap.size) (cwV 1 hts gX12_type_X12_bad rfl rfl rfl (by decide +kernel) ⟨Nat.le_of_ble_eq_true rfl, Nat.le_of_ble_eq_true rfl⟩) ⟨fun a U g mk q => by obtain ⟨q0, q1, qP, qK, qD⟩ := q; exact ⟨q0, q1, qP, va_K.moved (u := U) (U := U.calling g mk a) (Vm.Alike.refl U.vm) qK, qD⟩, va_recv hK hP (ci := 12) (q0 := 0) rfl rfl, fun U hU hW => ⟨rfl, by rw [hU], by rw [hU]; exact hPc, va_K.moved hW.alike hKc, hDc.weaken (fun _ _ _ _ => trivial)⟩⟩ rfl rfl hl.1 rfl (lv_room (Nat.le_of_ble_eq_true rfl)) dX12_type_15 ⟨Nat.le_of_ble_eq_true rfl, Nat.le_of_ble_eq_true rfl⟩) hS (fun q _ h => hFc q h) hFc (fun r_13 u_ t H1 locs ht hvm hw_14 hB hz1 hk1 hS => ?_)
      obtain ⟨gr__15, hP1, hK1, hD1⟩ := hB
      rw [ht] at hP1
      have hK1 := va_K.moved hvm.symm hK1
      obtain ⟨hP, hD⟩ := va_join (wr := [(mb, .inl (cb2_, 150, .inl fy_))]) (w1 := [(mo, .inr (12, [.ref nw, .ref kp, .ref ik, .ref mr, .long la_, .long lb_, .ref mw, .long lc_, .int ti_, .int cb_, .long ld_, .long le_, .ref mq, .ref mz, .ref my, .int sm_, .ref mb, .int (nI jb), .int ta_, .int tl_, .int tk_, .int vl_, .ref mx, .ref mv])), (mr, .inl (cr_, 3, .inl gr__15))]) hP hD [0, 1] [2] rfl rfl (by decide) (by decide) hk1 hFc hP1 hD1
      generalize H1 = H at hP hS ⊢
      have hP : va_P (dC, dI) vwCl [(mb, .inl (cb2_, 150, .inl fy_)), (mo, .inr (12, [.ref nw, .ref kp, .ref ik, .ref mr, .long la_, .long lb_, .ref mw, .long lc_, .int ti_, .int cb_, .long ld_, .long le_, .ref mq, .ref mz, .ref my, .int sm_, .ref mb, .int (nI jb), .int ta_, .int tl_, .int tk_, .int vl_, .ref mx, .ref mv])), (mr, .inl (cr_, 3, .inl gr__15))] H := hP
      have hD : va_D A [(mb, .inl (cb2_, 150, .inl fy_)), (mo, .inr (12, [.ref nw, .ref kp, .ref ik, .ref mr, .long la_, .long lb_, .ref mw, .long lc_, .int ti_, .int cb_, .long ld_, .long le_, .ref mq, .ref mz, .ref my, .int sm_, .ref mb, .int (nI jb), .int ta_, .int tl_, .int tk_, .int vl_, .ref mx, .ref mv])), (mr, .inl (cr_, 3, .inl gr__15))] := hD
      obtain rfl : (-2) = r_13 := hw_14.symm
      have hP9 := hP.sub (ws' := [(mo, .inr (12, [.ref nw, .ref kp, .ref ik, .ref mr, .long la_, .long lb_, .ref mw, .long lc_, .int ti_, .int cb_, .long ld_, .long le_, .ref mq, .ref mz, .ref my, .int sm_, .ref mb, .int (nI jb), .int ta_, .int tl_, .int tk_, .int vl_, .ref mx, .ref mv])), (mr, .inl (cr_, 3, .inl gr__15)), (mb, .inl (cb2_, 150, .inl fy_))]) [1, 2, 0] rfl
      have hD9 := hD.sub (ws' := [(mo, .inr (12, [.ref nw, .ref kp, .ref ik, .ref mr, .long la_, .long lb_, .ref mw, .long lc_, .int ti_, .int cb_, .long ld_, .long le_, .ref mq, .ref mz, .ref my, .int sm_, .ref mb, .int (nI jb), .int ta_, .int tl_, .int tk_, .int vl_, .ref mx, .ref mv])), (mr, .inl (cr_, 3, .inl gr__15)), (mb, .inl (cb2_, 150, .inl fy_))]) [1, 2, 0] (by decide) rfl
      have hK9 := hK.sub (tys' := [(cr_, .int), (cb2_, .int)]) [0, 1] rfl
      exact W.iret (v := (-2)) hx hb hr (fun t ht hW => ⟨⟨(-2), (), rfl, trivial, gr__15, fy_, jb, hjb, by rw [ht]; exact hP9, va_K.moved hW.alike hK9, hD9⟩, hS.F ht⟩) hS.2.2 dX12_type_18
theorem dX12_clear_0 : decode cX12_clear 0 = .ok (.aload_n 0, 1) := by decide +kernel
theorem dX12_clear_1 : decode cX12_clear 1 = .ok (.getfield 253, 3) := by decide +kernel
theorem dX12_clear_4 : decode cX12_clear 4 = .ok (.istore_n 1, 1) := by decide +kernel
theorem dX12_clear_5 : decode cX12_clear 5 = .ok (.aload_n 0, 1) := by decide +kernel
theorem dX12_clear_6 : decode cX12_clear 6 = .ok (.iconst 0, 1) := by decide +kernel
theorem dX12_clear_7 : decode cX12_clear 7 = .ok (.putfield 253, 3) := by decide +kernel
theorem dX12_clear_10 : decode cX12_clear 10 = .ok (.iload_n 1, 1) := by decide +kernel
theorem dX12_clear_11 : decode cX12_clear 11 = .ok (.ireturn, 1) := by decide +kernel
set_option maxRecDepth 20000 in
theorem iw_m_clear_X12 : ∀ w ∈ wsX120, w ∈ wsX12_clear := by decide +kernel
set_option maxHeartbeats 4000000 in
set_option maxRecDepth 100000 in
theorem m_clear (l : Launch) (dC : Nat → ClassId) (dI : Nat → Nat → Nat) (mo : Nat) (nw : Nat) (kp : Nat) (ik : Nat) (mr : Nat) (la_ : Int64) (lb_ : Int64) (mw : Nat) (lc_ : Int64) (ti_ : Int32) (cb_ : Int32) (ld_ : Int64) (le_ : Int64) (mq : Nat) (mz : Nat) (my : Nat) (sm_ : Int32) (mb : Nat) (jb : Nat) (ta_ : Int32) (tl_ : Int32) (tk_ : Int32) (vl_ : Int32) (mx : Nat) (mv : Nat) (sz : Nat) (hjb : jb ≤ 150) : Met l yX12_clear wsX12_clear ({ frames := 0, cells := 0, slots := 0, locals := 0 }) (va_Pc [.ref mo] (fun U => U.heap.size = sz ∧ va_P (dC, dI) vwCl [(mo, .inr (12, [.ref nw, .ref kp, .ref ik, .ref mr, .long la_, .long lb_, .ref mw, .long lc_, .int ti_, .int cb_, .long ld_, .long le_, .ref mq, .ref mz, .ref my, .int sm_, .ref mb, .int (nI jb), .int ta_, .int tl_, .int tk_, .int vl_, .ref mx, .ref mv]))] U.heap ∧ va_K (dC, dI) vwCl [] U ∧ va_D (fun _ => True) [(mo, .inr (12, [.ref nw, .ref kp, .ref ik, .ref mr, .long la_, .long lb_, .ref mw, .long lc_, .int ti_, .int cb_, .long ld_, .long le_, .ref mq, .ref mz, .ref my, .int sm_, .ref mb, .int (nI jb), .int ta_, .int tl_, .int tk_, .int vl_, .ref mx, .ref mv]))])) (va_Qi (fun (r : Int32) (_ : Unit) => True) (fun _ t => ∃ (gb : Nat), (gb ≤ 150) ∧ va_P (dC, dI) vwCl [(mo, .inr (12, [.ref nw, .ref kp, .ref ik, .ref mr, .long la_, .long lb_, .ref mw, .long lc_, .int ti_, .int cb_, .long ld_, .long le_, .ref mq, .ref mz, .ref my, .int sm_, .ref mb, .int (nI gb), .int ta_, .int tl_, .int tk_, .int vl_, .ref mx, .ref mv]))] t.heap ∧ va_K (dC, dI) vwCl [] t ∧ va_D (va_A [(mo, .inr (12, [.ref nw, .ref kp, .ref ik, .ref mr, .long la_, .long lb_, .ref mw, .long lc_, .int ti_, .int cb_, .long ld_, .long le_, .ref mq, .ref mz, .ref my, .int sm_, .ref mb, .int (nI jb), .int ta_, .int tl_, .int tk_, .int vl_, .ref mx, .ref mv]))] sz) [(mo, .inr (12, [.ref nw, .ref kp, .ref ik, .ref mr, .long la_, .long lb_, .ref mw, .long lc_, .int ti_, .int cb_, .long ld_, .long le_, .ref mq, .ref mz, .ref my, .int sm_, .ref mb, .int (nI gb), .int ta_, .int tl_, .int tk_, .int vl_, .ref mx, .ref mv]))]) (va_A [(mo, .inr (12, [.ref nw, .ref kp, .ref ik, .ref mr, .long la_, .long lb_, .ref mw, .long lc_, .int ti_, .int cb_, .long ld_, .long le_, .ref mq, .ref mz, .ref my, .int sm_, .ref mb, .int (nI jb), .int ta_, .int tl_, .int tk_, .int vl_, .ref mx, .ref mv]))] sz)) 0 0 (va_A [(mo, .inr (12, [.ref nw, .ref kp, .ref ik, .ref mr, .long la_, .long lb_, .ref mw, .long lc_, .int ti_, .int cb_, .long ld_, .long le_, .ref mq, .ref mz, .ref my, .int sm_, .ref mb, .int (nI jb), .int ta_, .int tl_, .int tk_, .int vl_, .ref mx, .ref mv]))] sz) := by
  refine Met.ofW (cc := cX12_clear) (maxL := 2) (ret := (some .int)) (by decide) rfl ?_
  intro p e s m args below meth c s₁ B hml hv
  obtain ⟨rfl, hsz, hP, hK, hD0⟩ := hv
  have hx := B.exec
  have hb := B.bytes
  have hr := B.returns
  have hts := atoms_spec (ws := wsX12_clear) B.pre
  have hown : s.vm.findClass RX12 = some m.cls := findClass_of_methodNamed B.named
  have hlocks := B.notSynchronized
  subst hsz
  have hD := hD0.self (sz := s.heap.size)
  generalize hAe : va_A [(mo, .inr (12, [.ref nw, .ref kp, .ref ik, .ref mr, .long la_, .long lb_, .ref mw, .long lc_, .int ti_, .int cb_, .long ld_, .long le_, .ref mq, .ref mz, .ref my, .int sm_, .ref mb, .int (nI jb), .int ta_, .int tl_, .int tk_, .int vl_, .ref mx, .ref mv]))] s.heap.size = A at hD ⊢
  have hA : ∀ q : Nat, s.heap.size ≤ q → A q := fun q h => by rw [← hAe]; exact Or.inr h
  have hS : va_S A s.heap s.heap [] := va_S.rf
  have hP : va_P (dC, dI) vwCl [(mo, .inr (12, [.ref nw, .ref kp, .ref ik, .ref mr, .long la_, .long lb_, .ref mw, .long lc_, .int ti_, .int cb_, .long ld_, .long le_, .ref mq, .ref mz, .ref my, .int sm_, .ref mb, .int (nI jb), .int ta_, .int tl_, .int tk_, .int vl_, .ref mx, .ref mv]))] s.heap := hP
  have hl := lv_entry ([.ref mo]) (n := 2) (Nat.le_of_ble_eq_true rfl)
  rw [lg_entry_eq]
  generalize (lg_sl ([.ref mo]) ++ List.replicate (2 - (lg_sl ([.ref mo])).length) Slot.unset).toArray = ls at hl ⊢
  have hl : lv_has ls 2 [(0, .ref mo)] := hl
  refine lv_aload_n hx hb dX12_clear_0 rfl (lv_at hl 0 rfl) ?_
  refine va_get (D := (dC, dI)) (ci := 12) (v := .int (nI jb)) (C := RX12) (T := TX12) (N := 24) hx hb hts iw_m_clear_X12 hown hK hP 0 rfl rfl 17 (by decide) (hts (.fieldLink RX12 253 "ThriceCountedModel" "bytesLong" "I") (by decide +kernel)) (fun _ h9 => h9) rfl dX12_clear_1 ?_
  refine lv_istore_n (lv' := [(1, .int (nI jb)), (0, .ref mo)]) hx hb dX12_clear_4 rfl hl (by decide) rfl (fun ls hl => ?_)
  refine lv_aload_n hx hb dX12_clear_5 rfl (lv_at hl 1 rfl) ?_
  refine lv_iconst (v := 0) hx hb dX12_clear_6 (by decide) ?_
  refine va_put (D := (dC, dI)) (ci := 12) (v := .int 0) (ty := .int) (C := RX12) (T := TX12) (N := 24) hx hb hts iw_m_clear_X12 tyX12 tyX12_ok nmX12 hown hK hP hD hS 0 rfl rfl 17 (by decide) (hts (.fieldLink RX12 253 "ThriceCountedModel" "bytesLong" "I") (by decide +kernel)) (fun _ h9 => h9) rfl (by decide +kernel) rfl rfl (Nat.le_of_ble_eq_true rfl) dX12_clear_7 (fun H locs hP hD hS => ?_)
  have hP : va_P (dC, dI) vwCl [(mo, .inr (12, [.ref nw, .ref kp, .ref ik, .ref mr, .long la_, .long lb_, .ref mw, .long lc_, .int ti_, .int cb_, .long ld_, .long le_, .ref mq, .ref mz, .ref my, .int sm_, .ref mb, .int 0, .int ta_, .int tl_, .int tk_, .int vl_, .ref mx, .ref mv]))] H := hP
  have hD : va_D A [(mo, .inr (12, [.ref nw, .ref kp, .ref ik, .ref mr, .long la_, .long lb_, .ref mw, .long lc_, .int ti_, .int cb_, .long ld_, .long le_, .ref mq, .ref mz, .ref my, .int sm_, .ref mb, .int 0, .int ta_, .int tl_, .int tk_, .int vl_, .ref mx, .ref mv]))] := hD
  refine lv_iload_n hx hb dX12_clear_10 rfl (lv_at hl 0 rfl) ?_
  have hP9 := hP.sub (ws' := [(mo, .inr (12, [.ref nw, .ref kp, .ref ik, .ref mr, .long la_, .long lb_, .ref mw, .long lc_, .int ti_, .int cb_, .long ld_, .long le_, .ref mq, .ref mz, .ref my, .int sm_, .ref mb, .int (nI 0), .int ta_, .int tl_, .int tk_, .int vl_, .ref mx, .ref mv]))]) [0] rfl
  have hD9 := hD.sub (ws' := [(mo, .inr (12, [.ref nw, .ref kp, .ref ik, .ref mr, .long la_, .long lb_, .ref mw, .long lc_, .int ti_, .int cb_, .long ld_, .long le_, .ref mq, .ref mz, .ref my, .int sm_, .ref mb, .int (nI 0), .int ta_, .int tl_, .int tk_, .int vl_, .ref mx, .ref mv]))]) [0] (by decide) rfl
  have hK9 := hK.sub (tys' := []) [] rfl
  exact W.iret (v := (nI jb)) hx hb hr (fun t ht hW => ⟨⟨(nI jb), (), rfl, trivial, 0, by omega, by rw [ht]; exact hP9, va_K.moved hW.alike hK9, hD9⟩, hS.F ht⟩) hS.2.2 dX12_clear_11
set_option maxRecDepth 20000 in
theorem ggX12_status_X12_in : GoodIn wsX12_status wsX12_in := goodIn_r _ [6] (by decide +kernel) (by decide +kernel)
set_option maxRecDepth 20000 in
theorem gX12_status_X12_in : GoodIn wsX12_status (va_wsS RX12 49 yX12_in wsX12_in) := goodIn_app (goodIn_of _ (by decide +kernel)) ggX12_status_X12_in
set_option maxRecDepth 20000 in
theorem ggX12_status_X12_bad : GoodIn wsX12_status wsX12_bad := goodIn_r _ [10, 2, 11, 12, 13, 14, 15, 16, 17, 18, 19, 20, 21, 22, 23, 24, 25, 26, 27, 28, 29, 30, 31, 32, 33, 34] (by decide +kernel) (by decide +kernel)
set_option maxRecDepth 20000 in
theorem gX12_status_X12_bad : GoodIn wsX12_status (wsV RX12 61 RX12 yX12_bad wsX12_bad) := goodIn_app (goodIn_of _ (by decide +kernel)) ggX12_status_X12_bad
theorem dX12_status_0 : decode cX12_status 0 = .ok (.iload_n 1, 1) := by decide +kernel
theorem dX12_status_1 : decode cX12_status 1 = .ok (.i2l, 1) := by decide +kernel
theorem dX12_status_2 : decode cX12_status 2 = .ok (.lconst 0, 1) := by decide +kernel
theorem dX12_status_3 : decode cX12_status 3 = .ok (.ldc2_w 241, 3) := by decide +kernel
theorem dX12_status_6 : decode cX12_status 6 = .ok (.invokestatic 49, 3) := by decide +kernel
theorem dX12_status_9 : decode cX12_status 9 = .ok (.ifCond .eq 12, 3) := by decide +kernel
theorem dX12_status_12 : decode cX12_status 12 = .ok (.aload_n 0, 1) := by decide +kernel
theorem dX12_status_13 : decode cX12_status 13 = .ok (.getfield 20, 3) := by decide +kernel
theorem dX12_status_16 : decode cX12_status 16 = .ok (.iload_n 1, 1) := by decide +kernel
theorem dX12_status_17 : decode cX12_status 17 = .ok (.iaload, 1) := by decide +kernel
theorem dX12_status_18 : decode cX12_status 18 = .ok (.goto 8, 3) := by decide +kernel
theorem dX12_status_26 : decode cX12_status 26 = .ok (.ireturn, 1) := by decide +kernel
theorem dX12_status_21 : decode cX12_status 21 = .ok (.aload_n 0, 1) := by decide +kernel
theorem dX12_status_22 : decode cX12_status 22 = .ok (.iconst (-1), 1) := by decide +kernel
theorem dX12_status_23 : decode cX12_status 23 = .ok (.invokevirtual 61, 3) := by decide +kernel
set_option maxRecDepth 20000 in
theorem iw_m_status_X12 : ∀ w ∈ wsX120, w ∈ wsX12_status := by decide +kernel
set_option maxHeartbeats 4000000 in
set_option maxRecDepth 100000 in
theorem m_status (l : Launch) (dC : Nat → ClassId) (dI : Nat → Nat → Nat) (mo : Nat) (nw : Nat) (kp : Nat) (ik : Nat) (mr : Nat) (la_ : Int64) (lb_ : Int64) (mw : Nat) (lc_ : Int64) (ti_ : Int32) (cb_ : Int32) (ld_ : Int64) (le_ : Int64) (mq : Nat) (mz : Nat) (my : Nat) (sm_ : Int32) (mb : Nat) (bl_ : Int32) (ta_ : Int32) (tl_ : Int32) (tk_ : Int32) (vl_ : Int32) (mx : Nat) (mv : Nat) (cr_ : ClassId) (fr_ : Nat → Int32) (na : Int32) (sz : Nat) : Met l yX12_status wsX12_status ({ frames := 1, cells := 0, slots := 0, locals := 25 }) (va_Pc [.ref mo, .int na] (fun U => U.heap.size = sz ∧ va_P (dC, dI) vwCl [(mo, .inr (12, [.ref nw, .ref kp, .ref ik, .ref mr, .long la_, .long lb_, .ref mw, .long lc_, .int ti_, .int cb_, .long ld_, .long le_, .ref mq, .ref mz, .ref my, .int sm_, .ref mb, .int bl_, .int ta_, .int tl_, .int tk_, .int vl_, .ref mx, .ref mv])), (mr, .inl (cr_, 3, .inl fr_))] U.heap ∧ va_K (dC, dI) vwCl [(cr_, .int)] U ∧ va_D (fun _ => True) [(mo, .inr (12, [.ref nw, .ref kp, .ref ik, .ref mr, .long la_, .long lb_, .ref mw, .long lc_, .int ti_, .int cb_, .long ld_, .long le_, .ref mq, .ref mz, .ref my, .int sm_, .ref mb, .int bl_, .int ta_, .int tl_, .int tk_, .int vl_, .ref mx, .ref mv])), (mr, .inl (cr_, 3, .inl fr_))])) (va_Qi (fun (r : Int32) (_ : Unit) => True) (fun _ t => ∃ (gr_ : Nat → Int32), va_P (dC, dI) vwCl [(mo, .inr (12, [.ref nw, .ref kp, .ref ik, .ref mr, .long la_, .long lb_, .ref mw, .long lc_, .int ti_, .int cb_, .long ld_, .long le_, .ref mq, .ref mz, .ref my, .int sm_, .ref mb, .int bl_, .int ta_, .int tl_, .int tk_, .int vl_, .ref mx, .ref mv])), (mr, .inl (cr_, 3, .inl gr_))] t.heap ∧ va_K (dC, dI) vwCl [(cr_, .int)] t ∧ va_D (va_A [(mo, .inr (12, [.ref nw, .ref kp, .ref ik, .ref mr, .long la_, .long lb_, .ref mw, .long lc_, .int ti_, .int cb_, .long ld_, .long le_, .ref mq, .ref mz, .ref my, .int sm_, .ref mb, .int bl_, .int ta_, .int tl_, .int tk_, .int vl_, .ref mx, .ref mv])), (mr, .inl (cr_, 3, .inl fr_))] sz) [(mo, .inr (12, [.ref nw, .ref kp, .ref ik, .ref mr, .long la_, .long lb_, .ref mw, .long lc_, .int ti_, .int cb_, .long ld_, .long le_, .ref mq, .ref mz, .ref my, .int sm_, .ref mb, .int bl_, .int ta_, .int tl_, .int tk_, .int vl_, .ref mx, .ref mv])), (mr, .inl (cr_, 3, .inl gr_))]) (va_A [(mo, .inr (12, [.ref nw, .ref kp, .ref ik, .ref mr, .long la_, .long lb_, .ref mw, .long lc_, .int ti_, .int cb_, .long ld_, .long le_, .ref mq, .ref mz, .ref my, .int sm_, .ref mb, .int bl_, .int ta_, .int tl_, .int tk_, .int vl_, .ref mx, .ref mv])), (mr, .inl (cr_, 3, .inl fr_))] sz)) 0 0 (va_A [(mo, .inr (12, [.ref nw, .ref kp, .ref ik, .ref mr, .long la_, .long lb_, .ref mw, .long lc_, .int ti_, .int cb_, .long ld_, .long le_, .ref mq, .ref mz, .ref my, .int sm_, .ref mb, .int bl_, .int ta_, .int tl_, .int tk_, .int vl_, .ref mx, .ref mv])), (mr, .inl (cr_, 3, .inl fr_))] sz) := by
  refine Met.ofW (cc := cX12_status) (maxL := 2) (ret := (some .int)) (by decide) rfl ?_
  intro p e s m args below meth c s₁ B hml hv
  obtain ⟨rfl, hsz, hP, hK, hD0⟩ := hv
  have hx := B.exec
  have hb := B.bytes
  have hr := B.returns
  have hts := atoms_spec (ws := wsX12_status) B.pre
  have hown : s.vm.findClass RX12 = some m.cls := findClass_of_methodNamed B.named
  have hlocks := B.notSynchronized
  subst hsz
  have hD := hD0.self (sz := s.heap.size)
  generalize hAe : va_A [(mo, .inr (12, [.ref nw, .ref kp, .ref ik, .ref mr, .long la_, .long lb_, .ref mw, .long lc_, .int ti_, .int cb_, .long ld_, .long le_, .ref mq, .ref mz, .ref my, .int sm_, .ref mb, .int bl_, .int ta_, .int tl_, .int tk_, .int vl_, .ref mx, .ref mv])), (mr, .inl (cr_, 3, .inl fr_))] s.heap.size = A at hD ⊢
  have hA : ∀ q : Nat, s.heap.size ≤ q → A q := fun q h => by rw [← hAe]; exact Or.inr h
  have hS : va_S A s.heap s.heap [] := va_S.rf
  have hP : va_P (dC, dI) vwCl [(mo, .inr (12, [.ref nw, .ref kp, .ref ik, .ref mr, .long la_, .long lb_, .ref mw, .long lc_, .int ti_, .int cb_, .long ld_, .long le_, .ref mq, .ref mz, .ref my, .int sm_, .ref mb, .int bl_, .int ta_, .int tl_, .int tk_, .int vl_, .ref mx, .ref mv])), (mr, .inl (cr_, 3, .inl fr_))] s.heap := hP
  have hl := lv_entry ([.ref mo, .int na]) (n := 2) (Nat.le_of_ble_eq_true rfl)
  rw [lg_entry_eq]
  generalize (lg_sl ([.ref mo, .int na]) ++ List.replicate (2 - (lg_sl ([.ref mo, .int na])).length) Slot.unset).toArray = ls at hl ⊢
  have hl : lv_has ls 2 [(0, .ref mo), (1, .int na)] := hl
  refine lv_iload_n hx hb dX12_status_0 rfl (lv_at hl 1 rfl) ?_
  refine lv_i2l (v := na.toInt64) hx hb dX12_status_1 rfl ?_
  refine lv_lconst (v := 0) hx hb dX12_status_2 (by decide) ?_
  refine lv_ldc2 hx hb hown (hts (.constantLong RX12 241 (2)) (by decide +kernel)) dX12_status_3 ?_
  refine vp_callSi (va_Run.run (va_runS (As := [.long na.toInt64, .long 0, .long 2]) (rest := []) ⟨hx, hb, hml, hown, hts⟩ (m_in l dC dI na.toInt64 0 2) (va_cwS 3 hts gX12_status_X12_in rfl rfl rfl (by decide +kernel) ⟨Nat.le_of_ble_eq_true rfl, Nat.le_of_ble_eq_true rfl⟩) ⟨fun a U g mk q => ⟨q.1, trivial⟩, fun U hU hW => ⟨rfl, trivial⟩⟩ rfl rfl hl.1 rfl (lv_room (Nat.le_of_ble_eq_true rfl)) dX12_status_6 ⟨Nat.le_of_ble_eq_true rfl, Nat.le_of_ble_eq_true rfl⟩)) (fun r_1 hw_2 => ?_)
  by_cases hc_3 : 0 ≤ na ∧ na ≤ 2
  · obtain rfl : 1 = r_1 := (hw_2.trans (if_pos ((tz_in64 (by first | rfl | decide) rfl (by first | rfl | decide)).mpr hc_3))).symm
    obtain ⟨j_4, hj_5, hj_6, rfl⟩ := tz_pickL (l := 0) (n := 2) hc_3 (by decide) (by decide)
    refine lv_if_eq (tgt := 21) hx hb dX12_status_9 (by decide) (fun c_7 => ?_) (fun c_7 => ?_)
    · exact absurd c_7 (by decide)
    · refine lv_aload_n hx hb dX12_status_12 rfl (lv_at hl 0 rfl) ?_
      refine va_get (D := (dC, dI)) (ci := 12) (v := .ref mr) (C := RX12) (T := TX12) (N := 24) hx hb hts iw_m_status_X12 hown hK hP 0 rfl rfl 3 (by decide) (hts (.fieldLink RX12 20 "ThriceCountedModel" "refused" "[I") (by decide +kernel)) (fun _ h9 => h9) rfl dX12_status_13 ?_
      refine lv_iload_n hx hb dX12_status_16 rfl (lv_at hl 1 rfl) ?_
      refine va_iald hx hb hK hP 1 0 rfl rfl (vp_in_nI (n := j_4) (N := 3) (by omega) (by decide)) dX12_status_17 ?_
      refine lv_topi (fun x_8 _ => ?_)
      refine lv_goto (tgt := 26) hx hb dX12_status_18 (by decide) ?_
      have hP9 := hP.sub (ws' := [(mo, .inr (12, [.ref nw, .ref kp, .ref ik, .ref mr, .long la_, .long lb_, .ref mw, .long lc_, .int ti_, .int cb_, .long ld_, .long le_, .ref mq, .ref mz, .ref my, .int sm_, .ref mb, .int bl_, .int ta_, .int tl_, .int tk_, .int vl_, .ref mx, .ref mv])), (mr, .inl (cr_, 3, .inl fr_))]) [0, 1] rfl
      have hD9 := hD.sub (ws' := [(mo, .inr (12, [.ref nw, .ref kp, .ref ik, .ref mr, .long la_, .long lb_, .ref mw, .long lc_, .int ti_, .int cb_, .long ld_, .long le_, .ref mq, .ref mz, .ref my, .int sm_, .ref mb, .int bl_, .int ta_, .int tl_, .int tk_, .int vl_, .ref mx, .ref mv])), (mr, .inl (cr_, 3, .inl fr_))]) [0, 1] (by decide) rfl
      have hK9 := hK.sub (tys' := [(cr_, .int)]) [0] rfl
      exact W.iret (v := x_8) hx hb hr (fun t ht hW => ⟨⟨x_8, (), rfl, trivial, fr_, by rw [ht]; exact hP9, va_K.moved hW.alike hK9, hD9⟩, hS.F ht⟩) hS.2.2 dX12_status_26
  · obtain rfl : 0 = r_1 := (hw_2.trans (if_neg (fun z => hc_3 ((tz_in64 (by first | rfl | decide) rfl (by first | rfl | decide)).mp z)))).symm
    refine lv_if_eq (tgt := 21) hx hb dX12_status_9 (by decide) (fun c_9 => ?_) (fun c_9 => ?_)
    · refine lv_aload_n hx hb dX12_status_21 rfl (lv_at hl 0 rfl) ?_
      refine lv_iconst (v := (-1)) hx hb dX12_status_22 (by decide) ?_
      have hPc := hP.sub (ws' := [(mo, .inr (12, [.ref nw, .ref kp, .ref ik, .ref mr, .long la_, .long lb_, .ref mw, .long lc_, .int ti_, .int cb_, .long ld_, .long le_, .ref mq, .ref mz, .ref my, .int sm_, .ref mb, .int bl_, .int ta_, .int tl_, .int tk_, .int vl_, .ref mx, .ref mv])), (mr, .inl (cr_, 3, .inl fr_))]) [0, 1] rfl
      have hDc := hD.sub (ws' := [(mo, .inr (12, [.ref nw, .ref kp, .ref ik, .ref mr, .long la_, .long lb_, .ref mw, .long lc_, .int ti_, .int cb_, .long ld_, .long le_, .ref mq, .ref mz, .ref my, .int sm_, .ref mb, .int bl_, .int ta_, .int tl_, .int tk_, .int vl_, .ref mx, .ref mv])), (mr, .inl (cr_, 3, .inl fr_))]) [0, 1] (by decide) rfl
      have hKc := hK.sub (tys' := [(cr_, .int)]) [0] rfl
      have hFc := va_free (wc := [(mo, .inr (12, [.ref nw, .ref kp, .ref ik, .ref mr, .long la_, .long lb_, .ref mw, .long lc_, .int ti_, .int cb_, .long ld_, .long le_, .ref mq, .ref mz, .ref my, .int sm_, .ref mb, .int bl_, .int ta_, .int tl_, .int tk_, .int vl_, .ref mx, .ref mv])), (mr, .inl (cr_, 3, .inl fr_))]) hD hS hA [0, 1] rfl
      refine va_calli (va_runV (As := [.int (-1)]) (rest := []) ⟨hx, hb, hml, hown, hts⟩ (m_bad l dC dI mo nw kp ik mr la_ lb_ mw lc_ ti_ cb_ ld_ le_ mq mz my sm_ mb bl_ ta_ tl_ tk_ vl_ mx mv cr_ fr_ (-1) s.heap.size) (cwV 1 hts gX12_status_X12_bad rfl rfl rfl (by decide +kernel) ⟨Nat.le_of_ble_eq_true rfl, Nat.le_of_ble_eq_true rfl⟩) ⟨fun a U g mk q => by obtain ⟨q0, q1, qP, qK, qD⟩ := q; exact ⟨q0, q1, qP, va_K.moved (u := U) (U := U.calling g mk a) (Vm.Alike.refl U.vm) qK, qD⟩, va_recv hK hP (ci := 12) (q0 := 0) rfl rfl, fun U hU hW => ⟨rfl, by rw [hU], by rw [hU]; exact hPc, va_K.moved hW.alike hKc, hDc.weaken (fun _ _ _ _ => trivial)⟩⟩ rfl rfl hl.1 rfl (lv_room (Nat.le_of_ble_eq_true rfl)) dX12_status_23 ⟨Nat.le_of_ble_eq_true rfl, Nat.le_of_ble_eq_true rfl⟩) hS (fun q _ h => hFc q h) hFc (fun r_10 u_ t H1 locs ht hvm hw_11 hB hz1 hk1 hS => ?_)
      obtain ⟨gr__12, hP1, hK1, hD1⟩ := hB
      rw [ht] at hP1
      have hK1 := va_K.moved hvm.symm hK1
      obtain ⟨hP, hD⟩ := va_join (wr := []) (w1 := [(mo, .inr (12, [.ref nw, .ref kp, .ref ik, .ref mr, .long la_, .long lb_, .ref mw, .long lc_, .int ti_, .int cb_, .long ld_, .long le_, .ref mq, .ref mz, .ref my, .int sm_, .ref mb, .int bl_, .int ta_, .int tl_, .int tk_, .int vl_, .ref mx, .ref mv])), (mr, .inl (cr_, 3, .inl gr__12))]) hP hD [0, 1] [] rfl rfl (by decide) (by decide) hk1 hFc hP1 hD1
      generalize H1 = H at hP hS ⊢
      have hP : va_P (dC, dI) vwCl [(mo, .inr (12, [.ref nw, .ref kp, .ref ik, .ref mr, .long la_, .long lb_, .ref mw, .long lc_, .int ti_, .int cb_, .long ld_, .long le_, .ref mq, .ref mz, .ref my, .int sm_, .ref mb, .int bl_, .int ta_, .int tl_, .int tk_, .int vl_, .ref mx, .ref mv])), (mr, .inl (cr_, 3, .inl gr__12))] H := hP
      have hD : va_D A [(mo, .inr (12, [.ref nw, .ref kp, .ref ik, .ref mr, .long la_, .long lb_, .ref mw, .long lc_, .int ti_, .int cb_, .long ld_, .long le_, .ref mq, .ref mz, .ref my, .int sm_, .ref mb, .int bl_, .int ta_, .int tl_, .int tk_, .int vl_, .ref mx, .ref mv])), (mr, .inl (cr_, 3, .inl gr__12))] := hD
      obtain rfl : (-1) = r_10 := hw_11.symm
      have hP9 := hP.sub (ws' := [(mo, .inr (12, [.ref nw, .ref kp, .ref ik, .ref mr, .long la_, .long lb_, .ref mw, .long lc_, .int ti_, .int cb_, .long ld_, .long le_, .ref mq, .ref mz, .ref my, .int sm_, .ref mb, .int bl_, .int ta_, .int tl_, .int tk_, .int vl_, .ref mx, .ref mv])), (mr, .inl (cr_, 3, .inl gr__12))]) [0, 1] rfl
      have hD9 := hD.sub (ws' := [(mo, .inr (12, [.ref nw, .ref kp, .ref ik, .ref mr, .long la_, .long lb_, .ref mw, .long lc_, .int ti_, .int cb_, .long ld_, .long le_, .ref mq, .ref mz, .ref my, .int sm_, .ref mb, .int bl_, .int ta_, .int tl_, .int tk_, .int vl_, .ref mx, .ref mv])), (mr, .inl (cr_, 3, .inl gr__12))]) [0, 1] (by decide) rfl
      have hK9 := hK.sub (tys' := [(cr_, .int)]) [0] rfl
      exact W.iret (v := (-1)) hx hb hr (fun t ht hW => ⟨⟨(-1), (), rfl, trivial, gr__12, by rw [ht]; exact hP9, va_K.moved hW.alike hK9, hD9⟩, hS.F ht⟩) hS.2.2 dX12_status_26
    · exact absurd c_9 (by decide)
theorem dX12_counted_0 : decode cX12_counted 0 = .ok (.iload_n 1, 1) := by decide +kernel
theorem dX12_counted_1 : decode cX12_counted 1 = .ok (.iconst 5, 1) := by decide +kernel
theorem dX12_counted_2 : decode cX12_counted 2 = .ok (.if_icmp .ge 12, 3) := by decide +kernel
theorem dX12_counted_14 : decode cX12_counted 14 = .ok (.aload_n 0, 1) := by decide +kernel
theorem dX12_counted_15 : decode cX12_counted 15 = .ok (.getfield 253, 3) := by decide +kernel
theorem dX12_counted_18 : decode cX12_counted 18 = .ok (.ireturn, 1) := by decide +kernel
theorem dX12_counted_5 : decode cX12_counted 5 = .ok (.aload_n 0, 1) := by decide +kernel
theorem dX12_counted_6 : decode cX12_counted 6 = .ok (.getfield 7, 3) := by decide +kernel
theorem dX12_counted_9 : decode cX12_counted 9 = .ok (.iload_n 1, 1) := by decide +kernel
theorem dX12_counted_10 : decode cX12_counted 10 = .ok (.iaload, 1) := by decide +kernel
theorem dX12_counted_11 : decode cX12_counted 11 = .ok (.goto 7, 3) := by decide +kernel
set_option maxRecDepth 20000 in
theorem iw_m_counted_X12 : ∀ w ∈ wsX120, w ∈ wsX12_counted := by decide +kernel
set_option maxHeartbeats 4000000 in
set_option maxRecDepth 100000 in
theorem m_counted (l : Launch) (dC : Nat → ClassId) (dI : Nat → Nat → Nat) (mo : Nat) (nw : Nat) (kp : Nat) (ik : Nat) (mr : Nat) (la_ : Int64) (lb_ : Int64) (mw : Nat) (lc_ : Int64) (ti_ : Int32) (cb_ : Int32) (ld_ : Int64) (le_ : Int64) (mq : Nat) (mz : Nat) (my : Nat) (sm_ : Int32) (mb : Nat) (bl_ : Int32) (ta_ : Int32) (tl_ : Int32) (tk_ : Int32) (vl_ : Int32) (mx : Nat) (mv : Nat) (cn_ : ClassId) (fn : Nat → Int32) (jd : Nat) (hOn : tz_OK 350 fn) (hjd : jd ≤ 5) : Met l yX12_counted wsX12_counted ({ frames := 0, cells := 0, slots := 0, locals := 0 }) (va_Pc [.ref mo, .int (nI jd)] (fun U => va_P (dC, dI) vwCl [(mo, .inr (12, [.ref nw, .ref kp, .ref ik, .ref mr, .long la_, .long lb_, .ref mw, .long lc_, .int ti_, .int cb_, .long ld_, .long le_, .ref mq, .ref mz, .ref my, .int sm_, .ref mb, .int bl_, .int ta_, .int tl_, .int tk_, .int vl_, .ref mx, .ref mv])), (nw, .inl (cn_, 350, .inl fn))] U.heap ∧ va_K (dC, dI) vwCl [(cn_, .int)] U)) (vp_Si (fun r => True)) 0 0 (fun _ => False) := by
  refine Met.ofW (cc := cX12_counted) (maxL := 2) (ret := (some .int)) (by decide) rfl ?_
  intro p e s m args below meth c s₁ B hml hv
  obtain ⟨rfl, hP, hK⟩ := hv
  have hx := B.exec
  have hb := B.bytes
  have hr := B.returns
  have hts := atoms_spec (ws := wsX12_counted) B.pre
  have hown : s.vm.findClass RX12 = some m.cls := findClass_of_methodNamed B.named
  have hlocks := B.notSynchronized
  have hl := lv_entry ([.ref mo, .int (nI jd)]) (n := 2) (Nat.le_of_ble_eq_true rfl)
  rw [lg_entry_eq]
  generalize (lg_sl ([.ref mo, .int (nI jd)]) ++ List.replicate (2 - (lg_sl ([.ref mo, .int (nI jd)])).length) Slot.unset).toArray = ls at hl ⊢
  have hl : lv_has ls 2 [(0, .ref mo), (1, .int (nI jd))] := hl
  refine lv_iload_n hx hb dX12_counted_0 rfl (lv_at hl 1 rfl) ?_
  refine lv_iconst (v := 5) hx hb dX12_counted_1 (by decide) ?_
  refine lv_icmp_ge (tgt := 14) hx hb dX12_counted_2 (by decide) (fun c_1 => ?_) (fun c_1 => ?_)
  · have hn_2 : 5 ≤ jd := (nI_leI (a := 5) (b := jd) (by omega) (by omega)).mp c_1
    refine lv_aload_n hx hb dX12_counted_14 rfl (lv_at hl 0 rfl) ?_
    refine va_get (D := (dC, dI)) (ci := 12) (v := .int bl_) (C := RX12) (T := TX12) (N := 24) hx hb hts iw_m_counted_X12 hown hK hP 0 rfl rfl 17 (by decide) (hts (.fieldLink RX12 253 "ThriceCountedModel" "bytesLong" "I") (by decide +kernel)) (fun _ h9 => h9) rfl dX12_counted_15 ?_
    exact W.iret (v := bl_) hx hb hr (fun t ht hW => ⟨bl_, rfl, trivial, ht⟩) (fun _ h => absurd h List.not_mem_nil) dX12_counted_18
  · have hn_3 : ¬ 5 ≤ jd := fun q => c_1 ((nI_leI (a := 5) (b := jd) (by omega) (by omega)).mpr q)
    refine lv_aload_n hx hb dX12_counted_5 rfl (lv_at hl 0 rfl) ?_
    refine va_get (D := (dC, dI)) (ci := 12) (v := .ref nw) (C := RX12) (T := TX12) (N := 24) hx hb hts iw_m_counted_X12 hown hK hP 0 rfl rfl 0 (by decide) (hts (.fieldLink RX12 7 "ThriceCountedModel" "now" "[I") (by decide +kernel)) (fun _ h9 => h9) rfl dX12_counted_6 ?_
    refine lv_iload_n hx hb dX12_counted_9 rfl (lv_at hl 1 rfl) ?_
    refine va_iald hx hb hK hP 1 0 rfl rfl (vp_in_nI (n := jd) (N := 350) (by omega) (by decide)) dX12_counted_10 ?_
    refine lv_topi (fun x_4 ex_5 => ?_)
    have hb_6 : tz_bd jd x_4 := tz_bd_ld hOn (by omega) ex_5 (by omega)
    refine lv_goto (tgt := 18) hx hb dX12_counted_11 (by decide) ?_
    exact W.iret (v := x_4) hx hb hr (fun t ht hW => ⟨x_4, rfl, trivial, ht⟩) (fun _ h => absurd h List.not_mem_nil) dX12_counted_18
set_option maxRecDepth 20000 in
theorem ggX12_count_X12_in : GoodIn wsX12_count wsX12_in := goodIn_r _ [5] (by decide +kernel) (by decide +kernel)
set_option maxRecDepth 20000 in
theorem gX12_count_X12_in : GoodIn wsX12_count (va_wsS RX12 49 yX12_in wsX12_in) := goodIn_app (goodIn_of _ (by decide +kernel)) ggX12_count_X12_in
set_option maxRecDepth 20000 in
theorem ggX12_count_X12_counted : GoodIn wsX12_count wsX12_counted := goodIn_r _ [9, 10, 11, 17, 18, 19, 20, 21, 22, 23, 24, 25, 26, 27, 28, 29, 30, 31, 32, 33, 34, 35, 36, 37, 38, 39, 40] (by decide +kernel) (by decide +kernel)
set_option maxRecDepth 20000 in
theorem gX12_count_X12_counted : GoodIn wsX12_count (wsV RX12 313 RX12 yX12_counted wsX12_counted) := goodIn_app (goodIn_of _ (by decide +kernel)) ggX12_count_X12_counted
set_option maxRecDepth 20000 in
theorem ggX12_count_X12_bad : GoodIn wsX12_count wsX12_bad := goodIn_r _ [15, 16, 17, 18, 19, 20, 21, 22, 23, 24, 25, 26, 27, 28, 29, 30, 31, 32, 33, 34, 35, 36, 37, 38, 39, 40] (by decide +kernel) (by decide +kernel)
set_option maxRecDepth 20000 in
theorem gX12_count_X12_bad : GoodIn wsX12_count (wsV RX12 61 RX12 yX12_bad wsX12_bad) := goodIn_app (goodIn_of _ (by decide +kernel)) ggX12_count_X12_bad
theorem dX12_count_0 : decode cX12_count 0 = .ok (.iload_n 1, 1) := by decide +kernel
theorem dX12_count_1 : decode cX12_count 1 = .ok (.i2l, 1) := by decide +kernel
theorem dX12_count_2 : decode cX12_count 2 = .ok (.lconst 0, 1) := by decide +kernel
theorem dX12_count_3 : decode cX12_count 3 = .ok (.ldc2_w 53, 3) := by decide +kernel
theorem dX12_count_6 : decode cX12_count 6 = .ok (.invokestatic 49, 3) := by decide +kernel
theorem dX12_count_9 : decode cX12_count 9 = .ok (.ifCond .eq 11, 3) := by decide +kernel
theorem dX12_count_12 : decode cX12_count 12 = .ok (.aload_n 0, 1) := by decide +kernel
theorem dX12_count_13 : decode cX12_count 13 = .ok (.iload_n 1, 1) := by decide +kernel
theorem dX12_count_14 : decode cX12_count 14 = .ok (.invokevirtual 313, 3) := by decide +kernel
theorem dX12_count_17 : decode cX12_count 17 = .ok (.goto 9, 3) := by decide +kernel
theorem dX12_count_26 : decode cX12_count 26 = .ok (.ireturn, 1) := by decide +kernel
theorem dX12_count_20 : decode cX12_count 20 = .ok (.aload_n 0, 1) := by decide +kernel
theorem dX12_count_21 : decode cX12_count 21 = .ok (.bipush (-2), 2) := by decide +kernel
theorem dX12_count_23 : decode cX12_count 23 = .ok (.invokevirtual 61, 3) := by decide +kernel
set_option maxHeartbeats 4000000 in
set_option maxRecDepth 100000 in
theorem m_count (l : Launch) (dC : Nat → ClassId) (dI : Nat → Nat → Nat) (mo : Nat) (nw : Nat) (kp : Nat) (ik : Nat) (mr : Nat) (la_ : Int64) (lb_ : Int64) (mw : Nat) (lc_ : Int64) (ti_ : Int32) (cb_ : Int32) (ld_ : Int64) (le_ : Int64) (mq : Nat) (mz : Nat) (my : Nat) (sm_ : Int32) (mb : Nat) (bl_ : Int32) (ta_ : Int32) (tl_ : Int32) (tk_ : Int32) (vl_ : Int32) (mx : Nat) (mv : Nat) (cn_ : ClassId) (fn : Nat → Int32) (cr_ : ClassId) (fr_ : Nat → Int32) (na : Int32) (sz : Nat) (hOn : tz_OK 350 fn) : Met l yX12_count wsX12_count ({ frames := 1, cells := 0, slots := 0, locals := 25 }) (va_Pc [.ref mo, .int na] (fun U => U.heap.size = sz ∧ va_P (dC, dI) vwCl [(mo, .inr (12, [.ref nw, .ref kp, .ref ik, .ref mr, .long la_, .long lb_, .ref mw, .long lc_, .int ti_, .int cb_, .long ld_, .long le_, .ref mq, .ref mz, .ref my, .int sm_, .ref mb, .int bl_, .int ta_, .int tl_, .int tk_, .int vl_, .ref mx, .ref mv])), (nw, .inl (cn_, 350, .inl fn)), (mr, .inl (cr_, 3, .inl fr_))] U.heap ∧ va_K (dC, dI) vwCl [(cn_, .int), (cr_, .int)] U ∧ va_D (fun _ => True) [(mo, .inr (12, [.ref nw, .ref kp, .ref ik, .ref mr, .long la_, .long lb_, .ref mw, .long lc_, .int ti_, .int cb_, .long ld_, .long le_, .ref mq, .ref mz, .ref my, .int sm_, .ref mb, .int bl_, .int ta_, .int tl_, .int tk_, .int vl_, .ref mx, .ref mv])), (nw, .inl (cn_, 350, .inl fn)), (mr, .inl (cr_, 3, .inl fr_))])) (va_Qi (fun (r : Int32) (_ : Unit) => True) (fun _ t => ∃ (gr_ : Nat → Int32), va_P (dC, dI) vwCl [(mo, .inr (12, [.ref nw, .ref kp, .ref ik, .ref mr, .long la_, .long lb_, .ref mw, .long lc_, .int ti_, .int cb_, .long ld_, .long le_, .ref mq, .ref mz, .ref my, .int sm_, .ref mb, .int bl_, .int ta_, .int tl_, .int tk_, .int vl_, .ref mx, .ref mv])), (nw, .inl (cn_, 350, .inl fn)), (mr, .inl (cr_, 3, .inl gr_))] t.heap ∧ va_K (dC, dI) vwCl [(cn_, .int), (cr_, .int)] t ∧ va_D (va_A [(mo, .inr (12, [.ref nw, .ref kp, .ref ik, .ref mr, .long la_, .long lb_, .ref mw, .long lc_, .int ti_, .int cb_, .long ld_, .long le_, .ref mq, .ref mz, .ref my, .int sm_, .ref mb, .int bl_, .int ta_, .int tl_, .int tk_, .int vl_, .ref mx, .ref mv])), (nw, .inl (cn_, 350, .inl fn)), (mr, .inl (cr_, 3, .inl fr_))] sz) [(mo, .inr (12, [.ref nw, .ref kp, .ref ik, .ref mr, .long la_, .long lb_, .ref mw, .long lc_, .int ti_, .int cb_, .long ld_, .long le_, .ref mq, .ref mz, .ref my, .int sm_, .ref mb, .int bl_, .int ta_, .int tl_, .int tk_, .int vl_, .ref mx, .ref mv])), (nw, .inl (cn_, 350, .inl fn)), (mr, .inl (cr_, 3, .inl gr_))]) (va_A [(mo, .inr (12, [.ref nw, .ref kp, .ref ik, .ref mr, .long la_, .long lb_, .ref mw, .long lc_, .int ti_, .int cb_, .long ld_, .long le_, .ref mq, .ref mz, .ref my, .int sm_, .ref mb, .int bl_, .int ta_, .int tl_, .int tk_, .int vl_, .ref mx, .ref mv])), (nw, .inl (cn_, 350, .inl fn)), (mr, .inl (cr_, 3, .inl fr_))] sz)) 0 0 (va_A [(mo, .inr (12, [.ref nw, .ref kp, .ref ik, .ref mr, .long la_, .long lb_, .ref mw, .long lc_, .int ti_, .int cb_, .long ld_, .long le_, .ref mq, .ref mz, .ref my, .int sm_, .ref mb, .int bl_, .int ta_, .int tl_, .int tk_, .int vl_, .ref mx, .ref mv])), (nw, .inl (cn_, 350, .inl fn)), (mr, .inl (cr_, 3, .inl fr_))] sz) := by
  refine Met.ofW (cc := cX12_count) (maxL := 2) (ret := (some .int)) (by decide) rfl ?_
  intro p e s m args below meth c s₁ B hml hv
  obtain ⟨rfl, hsz, hP, hK, hD0⟩ := hv
  have hx := B.exec
  have hb := B.bytes
  have hr := B.returns
  have hts := atoms_spec (ws := wsX12_count) B.pre
  have hown : s.vm.findClass RX12 = some m.cls := findClass_of_methodNamed B.named
  have hlocks := B.notSynchronized
  subst hsz
  have hD := hD0.self (sz := s.heap.size)
  generalize hAe : va_A [(mo, .inr (12, [.ref nw, .ref kp, .ref ik, .ref mr, .long la_, .long lb_, .ref mw, .long lc_, .int ti_, .int cb_, .long ld_, .long le_, .ref mq, .ref mz, .ref my, .int sm_, .ref mb, .int bl_, .int ta_, .int tl_, .int tk_, .int vl_, .ref mx, .ref mv])), (nw, .inl (cn_, 350, .inl fn)), (mr, .inl (cr_, 3, .inl fr_))] s.heap.size = A at hD ⊢
  have hA : ∀ q : Nat, s.heap.size ≤ q → A q := fun q h => by rw [← hAe]; exact Or.inr h
  have hS : va_S A s.heap s.heap [] := va_S.rf
  have hP : va_P (dC, dI) vwCl [(mo, .inr (12, [.ref nw, .ref kp, .ref ik, .ref mr, .long la_, .long lb_, .ref mw, .long lc_, .int ti_, .int cb_, .long ld_, .long le_, .ref mq, .ref mz, .ref my, .int sm_, .ref mb, .int bl_, .int ta_, .int tl_, .int tk_, .int vl_, .ref mx, .ref mv])), (nw, .inl (cn_, 350, .inl fn)), (mr, .inl (cr_, 3, .inl fr_))] s.heap := hP
  have hl := lv_entry ([.ref mo, .int na]) (n := 2) (Nat.le_of_ble_eq_true rfl)
  rw [lg_entry_eq]
  generalize (lg_sl ([.ref mo, .int na]) ++ List.replicate (2 - (lg_sl ([.ref mo, .int na])).length) Slot.unset).toArray = ls at hl ⊢
  have hl : lv_has ls 2 [(0, .ref mo), (1, .int na)] := hl
  refine lv_iload_n hx hb dX12_count_0 rfl (lv_at hl 1 rfl) ?_
  refine lv_i2l (v := na.toInt64) hx hb dX12_count_1 rfl ?_
  refine lv_lconst (v := 0) hx hb dX12_count_2 (by decide) ?_
  refine lv_ldc2 hx hb hown (hts (.constantLong RX12 53 (5)) (by decide +kernel)) dX12_count_3 ?_
  refine vp_callSi (va_Run.run (va_runS (As := [.long na.toInt64, .long 0, .long 5]) (rest := []) ⟨hx, hb, hml, hown, hts⟩ (m_in l dC dI na.toInt64 0 5) (va_cwS 3 hts gX12_count_X12_in rfl rfl rfl (by decide +kernel) ⟨Nat.le_of_ble_eq_true rfl, Nat.le_of_ble_eq_true rfl⟩) ⟨fun a U g mk q => ⟨q.1, trivial⟩, fun U hU hW => ⟨rfl, trivial⟩⟩ rfl rfl hl.1 rfl (lv_room (Nat.le_of_ble_eq_true rfl)) dX12_count_6 ⟨Nat.le_of_ble_eq_true rfl, Nat.le_of_ble_eq_true rfl⟩)) (fun r_1 hw_2 => ?_)
  by_cases hc_3 : 0 ≤ na ∧ na ≤ 5
  · obtain rfl : 1 = r_1 := (hw_2.trans (if_pos ((tz_in64 (by first | rfl | decide) rfl (by first | rfl | decide)).mpr hc_3))).symm
    obtain ⟨j_4, hj_5, hj_6, rfl⟩ := tz_pickL (l := 0) (n := 5) hc_3 (by decide) (by decide)
    refine lv_if_eq (tgt := 20) hx hb dX12_count_9 (by decide) (fun c_7 => ?_) (fun c_7 => ?_)
    · exact absurd c_7 (by decide)
    · refine lv_aload_n hx hb dX12_count_12 rfl (lv_at hl 0 rfl) ?_
      refine lv_iload_n hx hb dX12_count_13 rfl (lv_at hl 1 rfl) ?_
      have hPc_8 := hP.sub (ws' := [(mo, .inr (12, [.ref nw, .ref kp, .ref ik, .ref mr, .long la_, .long lb_, .ref mw, .long lc_, .int ti_, .int cb_, .long ld_, .long le_, .ref mq, .ref mz, .ref my, .int sm_, .ref mb, .int bl_, .int ta_, .int tl_, .int tk_, .int vl_, .ref mx, .ref mv])), (nw, .inl (cn_, 350, .inl fn))]) [0, 1] rfl
      have hKc_9 := hK.sub (tys' := [(cn_, .int)]) [0] rfl
      refine vp_callSi (va_Run.run (va_runV (As := [.int (nI j_4)]) (rest := []) ⟨hx, hb, hml, hown, hts⟩ (m_counted l dC dI mo nw kp ik mr la_ lb_ mw lc_ ti_ cb_ ld_ le_ mq mz my sm_ mb bl_ ta_ tl_ tk_ vl_ mx mv cn_ fn j_4 hOn (by omega)) (cwV 1 hts gX12_count_X12_counted rfl rfl rfl (by decide +kernel) ⟨Nat.le_of_ble_eq_true rfl, Nat.le_of_ble_eq_true rfl⟩) ⟨fun a U g mk q => by obtain ⟨q0, qP, qK⟩ := q; exact ⟨q0, qP, va_K.moved (u := U) (U := U.calling g mk a) (Vm.Alike.refl U.vm) qK⟩, va_recv hK hP (ci := 12) (q0 := 0) rfl rfl, fun U hU hW => ⟨rfl, by rw [hU]; exact hPc_8, va_K.moved hW.alike hKc_9⟩⟩ rfl rfl hl.1 rfl (lv_room (Nat.le_of_ble_eq_true rfl)) dX12_count_14 ⟨Nat.le_of_ble_eq_true rfl, Nat.le_of_ble_eq_true rfl⟩)) (fun r_10 hw_11 => ?_)
      refine lv_goto (tgt := 26) hx hb dX12_count_17 (by decide) ?_
      have hP9 := hP.sub (ws' := [(mo, .inr (12, [.ref nw, .ref kp, .ref ik, .ref mr, .long la_, .long lb_, .ref mw, .long lc_, .int ti_, .int cb_, .long ld_, .long le_, .ref mq, .ref mz, .ref my, .int sm_, .ref mb, .int bl_, .int ta_, .int tl_, .int tk_, .int vl_, .ref mx, .ref mv])), (nw, .inl (cn_, 350, .inl fn)), (mr, .inl (cr_, 3, .inl fr_))]) [0, 1, 2] rfl
      have hD9 := hD.sub (ws' := [(mo, .inr (12, [.ref nw, .ref kp, .ref ik, .ref mr, .long la_, .long lb_, .ref mw, .long lc_, .int ti_, .int cb_, .long ld_, .long le_, .ref mq, .ref mz, .ref my, .int sm_, .ref mb, .int bl_, .int ta_, .int tl_, .int tk_, .int vl_, .ref mx, .ref mv])), (nw, .inl (cn_, 350, .inl fn)), (mr, .inl (cr_, 3, .inl fr_))]) [0, 1, 2] (by decide) rfl
      have hK9 := hK.sub (tys' := [(cn_, .int), (cr_, .int)]) [0, 1] rfl
      exact W.iret (v := r_10) hx hb hr (fun t ht hW => ⟨⟨r_10, (), rfl, trivial, fr_, by rw [ht]; exact hP9, va_K.moved hW.alike hK9, hD9⟩, hS.F ht⟩) hS.2.2 dX12_count_26
  · obtain rfl : 0 = r_1 := (hw_2.trans (if_neg (fun z => hc_3 ((tz_in64 (by first | rfl | decide) rfl (by first | rfl | decide)).mp z)))).symm
    refine lv_if_eq (tgt := 20) hx hb dX12_count_9 (by decide) (fun c_12 => ?_) (fun c_12 => ?_)
    · refine lv_aload_n hx hb dX12_count_20 rfl (lv_at hl 0 rfl) ?_
      refine lv_bipush (v := (-2)) hx hb dX12_count_21 (by decide) ?_
      have hPc := hP.sub (ws' := [(mo, .inr (12, [.ref nw, .ref kp, .ref ik, .ref mr, .long la_, .long lb_, .ref mw, .long lc_, .int ti_, .int cb_, .long ld_, .long le_, .ref mq, .ref mz, .ref my, .int sm_, .ref mb, .int bl_, .int ta_, .int tl_, .int tk_, .int vl_, .ref mx, .ref mv])), (mr, .inl (cr_, 3, .inl fr_))]) [0, 2] rfl
      have hDc := hD.sub (ws' := [(mo, .inr (12, [.ref nw, .ref kp, .ref ik, .ref mr, .long la_, .long lb_, .ref mw, .long lc_, .int ti_, .int cb_, .long ld_, .long le_, .ref mq, .ref mz, .ref my, .int sm_, .ref mb, .int bl_, .int ta_, .int tl_, .int tk_, .int vl_, .ref mx, .ref mv])), (mr, .inl (cr_, 3, .inl fr_))]) [0, 2] (by decide) rfl
      have hKc := hK.sub (tys' := [(cr_, .int)]) [1] rfl
      have hFc := va_free (wc := [(mo, .inr (12, [.ref nw, .ref kp, .ref ik, .ref mr, .long la_, .long lb_, .ref mw, .long lc_, .int ti_, .int cb_, .long ld_, .long le_, .ref mq, .ref mz, .ref my, .int sm_, .ref mb, .int bl_, .int ta_, .int tl_, .int tk_, .int vl_, .ref mx, .ref mv])), (mr, .inl (cr_, 3, .inl fr_))]) hD hS hA [0, 2] rfl
      refine va_calli (va_runV (As := [.int (-2)]) (rest := []) ⟨hx, hb, hml, hown, hts⟩ (m_bad l dC dI mo nw kp ik mr la_ lb_ mw lc_ ti_ cb_ ld_ le_ mq mz my sm_ mb bl_ ta_ tl_ tk_ vl_ mx mv cr_ fr_ (-2) s.heap.size) (cwV 1 hts gX12_count_X12_bad rfl rfl rfl (by decide +kernel) ⟨Nat.le_of_ble_eq_true rfl, Nat.le_of_ble_eq_true rfl⟩) ⟨fun a U g mk q => by obtain ⟨q0, q1, qP, qK, qD⟩ := q; exact ⟨q0, q1, qP, va_K.moved (u := U) (U := U.calling g mk a) (Vm.Alike.refl U.vm) qK, qD⟩, va_recv hK hP (ci := 12) (q0 := 0) rfl rfl, fun U hU hW => ⟨rfl, by rw [hU], by rw [hU]; exact hPc, va_K.moved hW.alike hKc, hDc.weaken (fun _ _ _ _ => trivial)⟩⟩ rfl rfl hl.1 rfl (lv_room (Nat.le_of_ble_eq_true rfl)) dX12_count_23 ⟨Nat.le_of_ble_eq_true rfl, Nat.le_of_ble_eq_true rfl⟩) hS (fun q _ h => hFc q h) hFc (fun r_13 u_ t H1 locs ht hvm hw_14 hB hz1 hk1 hS => ?_)
      obtain ⟨gr__15, hP1, hK1, hD1⟩ := hB
      rw [ht] at hP1
      have hK1 := va_K.moved hvm.symm hK1
      obtain ⟨hP, hD⟩ := va_join (wr := [(nw, .inl (cn_, 350, .inl fn))]) (w1 := [(mo, .inr (12, [.ref nw, .ref kp, .ref ik, .ref mr, .long la_, .long lb_, .ref mw, .long lc_, .int ti_, .int cb_, .long ld_, .long le_, .ref mq, .ref mz, .ref my, .int sm_, .ref mb, .int bl_, .int ta_, .int tl_, .int tk_, .int vl_, .ref mx, .ref mv])), (mr, .inl (cr_, 3, .inl gr__15))]) hP hD [0, 2] [1] rfl rfl (by decide) (by decide) hk1 hFc hP1 hD1
      generalize H1 = H at hP hS ⊢
      have hP : va_P (dC, dI) vwCl [(nw, .inl (cn_, 350, .inl fn)), (mo, .inr (12, [.ref nw, .ref kp, .ref ik, .ref mr, .long la_, .long lb_, .ref mw, .long lc_, .int ti_, .int cb_, .long ld_, .long le_, .ref mq, .ref mz, .ref my, .int sm_, .ref mb, .int bl_, .int ta_, .int tl_, .int tk_, .int vl_, .ref mx, .ref mv])), (mr, .inl (cr_, 3, .inl gr__15))] H := hP
      have hD : va_D A [(nw, .inl (cn_, 350, .inl fn)), (mo, .inr (12, [.ref nw, .ref kp, .ref ik, .ref mr, .long la_, .long lb_, .ref mw, .long lc_, .int ti_, .int cb_, .long ld_, .long le_, .ref mq, .ref mz, .ref my, .int sm_, .ref mb, .int bl_, .int ta_, .int tl_, .int tk_, .int vl_, .ref mx, .ref mv])), (mr, .inl (cr_, 3, .inl gr__15))] := hD
      obtain rfl : (-2) = r_13 := hw_14.symm
      have hP9 := hP.sub (ws' := [(mo, .inr (12, [.ref nw, .ref kp, .ref ik, .ref mr, .long la_, .long lb_, .ref mw, .long lc_, .int ti_, .int cb_, .long ld_, .long le_, .ref mq, .ref mz, .ref my, .int sm_, .ref mb, .int bl_, .int ta_, .int tl_, .int tk_, .int vl_, .ref mx, .ref mv])), (nw, .inl (cn_, 350, .inl fn)), (mr, .inl (cr_, 3, .inl gr__15))]) [1, 0, 2] rfl
      have hD9 := hD.sub (ws' := [(mo, .inr (12, [.ref nw, .ref kp, .ref ik, .ref mr, .long la_, .long lb_, .ref mw, .long lc_, .int ti_, .int cb_, .long ld_, .long le_, .ref mq, .ref mz, .ref my, .int sm_, .ref mb, .int bl_, .int ta_, .int tl_, .int tk_, .int vl_, .ref mx, .ref mv])), (nw, .inl (cn_, 350, .inl fn)), (mr, .inl (cr_, 3, .inl gr__15))]) [1, 0, 2] (by decide) rfl
      have hK9 := hK.sub (tys' := [(cn_, .int), (cr_, .int)]) [0, 1] rfl
      exact W.iret (v := (-2)) hx hb hr (fun t ht hW => ⟨⟨(-2), (), rfl, trivial, gr__15, by rw [ht]; exact hP9, va_K.moved hW.alike hK9, hD9⟩, hS.F ht⟩) hS.2.2 dX12_count_26
    · exact absurd c_12 (by decide)
set_option maxRecDepth 20000 in
theorem ggX12_part_X12_bad : GoodIn wsX12_part wsX12_bad := goodIn_r _ [7, 8, 9, 10, 11, 12, 13, 14, 15, 16, 17, 18, 19, 20, 21, 22, 23, 24, 25, 26, 27, 28, 29, 30, 31, 32] (by decide +kernel) (by decide +kernel)
set_option maxRecDepth 20000 in
theorem gX12_part_X12_bad : GoodIn wsX12_part (wsV RX12 61 RX12 yX12_bad wsX12_bad) := goodIn_app (goodIn_of _ (by decide +kernel)) ggX12_part_X12_bad
theorem dX12_part_0 : decode cX12_part 0 = .ok (.iload_n 1, 1) := by decide +kernel
theorem dX12_part_1 : decode cX12_part 1 = .ok (.ifCond .ne 10, 3) := by decide +kernel
theorem dX12_part_11 : decode cX12_part 11 = .ok (.iload_n 1, 1) := by decide +kernel
theorem dX12_part_12 : decode cX12_part 12 = .ok (.iconst 1, 1) := by decide +kernel
theorem dX12_part_13 : decode cX12_part 13 = .ok (.if_icmp .ne 10, 3) := by decide +kernel
theorem dX12_part_23 : decode cX12_part 23 = .ok (.aload_n 0, 1) := by decide +kernel
theorem dX12_part_24 : decode cX12_part 24 = .ok (.bipush (-2), 2) := by decide +kernel
theorem dX12_part_26 : decode cX12_part 26 = .ok (.invokevirtual 61, 3) := by decide +kernel
theorem dX12_part_29 : decode cX12_part 29 = .ok (.i2l, 1) := by decide +kernel
theorem dX12_part_30 : decode cX12_part 30 = .ok (.lreturn, 1) := by decide +kernel
theorem dX12_part_16 : decode cX12_part 16 = .ok (.aload_n 0, 1) := by decide +kernel
theorem dX12_part_17 : decode cX12_part 17 = .ok (.getfield 23, 3) := by decide +kernel
theorem dX12_part_20 : decode cX12_part 20 = .ok (.goto 10, 3) := by decide +kernel
theorem dX12_part_4 : decode cX12_part 4 = .ok (.aload_n 0, 1) := by decide +kernel
theorem dX12_part_5 : decode cX12_part 5 = .ok (.getfield 148, 3) := by decide +kernel
theorem dX12_part_8 : decode cX12_part 8 = .ok (.goto 22, 3) := by decide +kernel
set_option maxRecDepth 20000 in
theorem iw_m_part_X12 : ∀ w ∈ wsX120, w ∈ wsX12_part := by decide +kernel
set_option maxHeartbeats 4000000 in
set_option maxRecDepth 100000 in
theorem m_part (l : Launch) (dC : Nat → ClassId) (dI : Nat → Nat → Nat) (mo : Nat) (nw : Nat) (kp : Nat) (ik : Nat) (mr : Nat) (la_ : Int64) (lb_ : Int64) (mw : Nat) (lc_ : Int64) (ti_ : Int32) (cb_ : Int32) (ld_ : Int64) (le_ : Int64) (mq : Nat) (mz : Nat) (my : Nat) (sm_ : Int32) (mb : Nat) (bl_ : Int32) (ta_ : Int32) (tl_ : Int32) (tk_ : Int32) (vl_ : Int32) (mx : Nat) (mv : Nat) (cr_ : ClassId) (fr_ : Nat → Int32) (na : Int32) (sz : Nat) : Met l yX12_part wsX12_part ({ frames := 1, cells := 0, slots := 0, locals := 21 }) (va_Pc [.ref mo, .int na] (fun U => U.heap.size = sz ∧ va_P (dC, dI) vwCl [(mo, .inr (12, [.ref nw, .ref kp, .ref ik, .ref mr, .long la_, .long lb_, .ref mw, .long lc_, .int ti_, .int cb_, .long ld_, .long le_, .ref mq, .ref mz, .ref my, .int sm_, .ref mb, .int bl_, .int ta_, .int tl_, .int tk_, .int vl_, .ref mx, .ref mv])), (mr, .inl (cr_, 3, .inl fr_))] U.heap ∧ va_K (dC, dI) vwCl [(cr_, .int)] U ∧ va_D (fun _ => True) [(mo, .inr (12, [.ref nw, .ref kp, .ref ik, .ref mr, .long la_, .long lb_, .ref mw, .long lc_, .int ti_, .int cb_, .long ld_, .long le_, .ref mq, .ref mz, .ref my, .int sm_, .ref mb, .int bl_, .int ta_, .int tl_, .int tk_, .int vl_, .ref mx, .ref mv])), (mr, .inl (cr_, 3, .inl fr_))])) (va_Ql (fun (r : Int64) (_ : Unit) => True) (fun _ t => ∃ (gr_ : Nat → Int32), va_P (dC, dI) vwCl [(mo, .inr (12, [.ref nw, .ref kp, .ref ik, .ref mr, .long la_, .long lb_, .ref mw, .long lc_, .int ti_, .int cb_, .long ld_, .long le_, .ref mq, .ref mz, .ref my, .int sm_, .ref mb, .int bl_, .int ta_, .int tl_, .int tk_, .int vl_, .ref mx, .ref mv])), (mr, .inl (cr_, 3, .inl gr_))] t.heap ∧ va_K (dC, dI) vwCl [(cr_, .int)] t ∧ va_D (va_A [(mo, .inr (12, [.ref nw, .ref kp, .ref ik, .ref mr, .long la_, .long lb_, .ref mw, .long lc_, .int ti_, .int cb_, .long ld_, .long le_, .ref mq, .ref mz, .ref my, .int sm_, .ref mb, .int bl_, .int ta_, .int tl_, .int tk_, .int vl_, .ref mx, .ref mv])), (mr, .inl (cr_, 3, .inl fr_))] sz) [(mo, .inr (12, [.ref nw, .ref kp, .ref ik, .ref mr, .long la_, .long lb_, .ref mw, .long lc_, .int ti_, .int cb_, .long ld_, .long le_, .ref mq, .ref mz, .ref my, .int sm_, .ref mb, .int bl_, .int ta_, .int tl_, .int tk_, .int vl_, .ref mx, .ref mv])), (mr, .inl (cr_, 3, .inl gr_))]) (va_A [(mo, .inr (12, [.ref nw, .ref kp, .ref ik, .ref mr, .long la_, .long lb_, .ref mw, .long lc_, .int ti_, .int cb_, .long ld_, .long le_, .ref mq, .ref mz, .ref my, .int sm_, .ref mb, .int bl_, .int ta_, .int tl_, .int tk_, .int vl_, .ref mx, .ref mv])), (mr, .inl (cr_, 3, .inl fr_))] sz)) 0 0 (va_A [(mo, .inr (12, [.ref nw, .ref kp, .ref ik, .ref mr, .long la_, .long lb_, .ref mw, .long lc_, .int ti_, .int cb_, .long ld_, .long le_, .ref mq, .ref mz, .ref my, .int sm_, .ref mb, .int bl_, .int ta_, .int tl_, .int tk_, .int vl_, .ref mx, .ref mv])), (mr, .inl (cr_, 3, .inl fr_))] sz) := by
  refine Met.ofW (cc := cX12_part) (maxL := 2) (ret := (some .long)) (by decide) rfl ?_
  intro p e s m args below meth c s₁ B hml hv
  obtain ⟨rfl, hsz, hP, hK, hD0⟩ := hv
  have hx := B.exec
  have hb := B.bytes
  have hr := B.returns
  have hts := atoms_spec (ws := wsX12_part) B.pre
  have hown : s.vm.findClass RX12 = some m.cls := findClass_of_methodNamed B.named
  have hlocks := B.notSynchronized
  subst hsz
  have hD := hD0.self (sz := s.heap.size)
  generalize hAe : va_A [(mo, .inr (12, [.ref nw, .ref kp, .ref ik, .ref mr, .long la_, .long lb_, .ref mw, .long lc_, .int ti_, .int cb_, .long ld_, .long le_, .ref mq, .ref mz, .ref my, .int sm_, .ref mb, .int bl_, .int ta_, .int tl_, .int tk_, .int vl_, .ref mx, .ref mv])), (mr, .inl (cr_, 3, .inl fr_))] s.heap.size = A at hD ⊢
  have hA : ∀ q : Nat, s.heap.size ≤ q → A q := fun q h => by rw [← hAe]; exact Or.inr h
  have hS : va_S A s.heap s.heap [] := va_S.rf
  have hP : va_P (dC, dI) vwCl [(mo, .inr (12, [.ref nw, .ref kp, .ref ik, .ref mr, .long la_, .long lb_, .ref mw, .long lc_, .int ti_, .int cb_, .long ld_, .long le_, .ref mq, .ref mz, .ref my, .int sm_, .ref mb, .int bl_, .int ta_, .int tl_, .int tk_, .int vl_, .ref mx, .ref mv])), (mr, .inl (cr_, 3, .inl fr_))] s.heap := hP
  have hl := lv_entry ([.ref mo, .int na]) (n := 2) (Nat.le_of_ble_eq_true rfl)
  rw [lg_entry_eq]
  generalize (lg_sl ([.ref mo, .int na]) ++ List.replicate (2 - (lg_sl ([.ref mo, .int na])).length) Slot.unset).toArray = ls at hl ⊢
  have hl : lv_has ls 2 [(0, .ref mo), (1, .int na)] := hl
  refine lv_iload_n hx hb dX12_part_0 rfl (lv_at hl 1 rfl) ?_
  refine lv_if_ne (tgt := 11) hx hb dX12_part_1 (by decide) (fun c_1 => ?_) (fun c_1 => ?_)
  · refine lv_iload_n hx hb dX12_part_11 rfl (lv_at hl 1 rfl) ?_
    refine lv_iconst (v := 1) hx hb dX12_part_12 (by decide) ?_
    refine lv_icmp_ne (tgt := 23) hx hb dX12_part_13 (by decide) (fun c_2 => ?_) (fun c_2 => ?_)
    · refine lv_aload_n hx hb dX12_part_23 rfl (lv_at hl 0 rfl) ?_
      refine lv_bipush (v := (-2)) hx hb dX12_part_24 (by decide) ?_
      have hPc := hP.sub (ws' := [(mo, .inr (12, [.ref nw, .ref kp, .ref ik, .ref mr, .long la_, .long lb_, .ref mw, .long lc_, .int ti_, .int cb_, .long ld_, .long le_, .ref mq, .ref mz, .ref my, .int sm_, .ref mb, .int bl_, .int ta_, .int tl_, .int tk_, .int vl_, .ref mx, .ref mv])), (mr, .inl (cr_, 3, .inl fr_))]) [0, 1] rfl
      have hDc := hD.sub (ws' := [(mo, .inr (12, [.ref nw, .ref kp, .ref ik, .ref mr, .long la_, .long lb_, .ref mw, .long lc_, .int ti_, .int cb_, .long ld_, .long le_, .ref mq, .ref mz, .ref my, .int sm_, .ref mb, .int bl_, .int ta_, .int tl_, .int tk_, .int vl_, .ref mx, .ref mv])), (mr, .inl (cr_, 3, .inl fr_))]) [0, 1] (by decide) rfl
      have hKc := hK.sub (tys' := [(cr_, .int)]) [0] rfl
      have hFc := va_free (wc := [(mo, .inr (12, [.ref nw, .ref kp, .ref ik, .ref mr, .long la_, .long lb_, .ref mw, .long lc_, .int ti_, .int cb_, .long ld_, .long le_, .ref mq, .ref mz, .ref my, .int sm_, .ref mb, .int bl_, .int ta_, .int tl_, .int tk_, .int vl_, .ref mx, .ref mv])), (mr, .inl (cr_, 3, .inl fr_))]) hD hS hA [0, 1] rfl
      refine va_calli (va_runV (As := [.int (-2)]) (rest := []) ⟨hx, hb, hml, hown, hts⟩ (m_bad l dC dI mo nw kp ik mr la_ lb_ mw lc_ ti_ cb_ ld_ le_ mq mz my sm_ mb bl_ ta_ tl_ tk_ vl_ mx mv cr_ fr_ (-2) s.heap.size) (cwV 1 hts gX12_part_X12_bad rfl rfl rfl (by decide +kernel) ⟨Nat.le_of_ble_eq_true rfl, Nat.le_of_ble_eq_true rfl⟩) ⟨fun a U g mk q => by obtain ⟨q0, q1, qP, qK, qD⟩ := q; exact ⟨q0, q1, qP, va_K.moved (u := U) (U := U.calling g mk a) (Vm.Alike.refl U.vm) qK, qD⟩, va_recv hK hP (ci := 12) (q0 := 0) rfl rfl, fun U hU hW => ⟨rfl, by rw [hU], by rw [hU]; exact hPc, va_K.moved hW.alike hKc, hDc.weaken (fun _ _ _ _ => trivial)⟩⟩ rfl rfl hl.1 rfl (lv_room (Nat.le_of_ble_eq_true rfl)) dX12_part_26 ⟨Nat.le_of_ble_eq_true rfl, Nat.le_of_ble_eq_true rfl⟩) hS (fun q _ h => hFc q h) hFc (fun r_3 u_ t H1 locs ht hvm hw_4 hB hz1 hk1 hS => ?_)
      obtain ⟨gr__5, hP1, hK1, hD1⟩ := hB
      rw [ht] at hP1
      have hK1 := va_K.moved hvm.symm hK1
      obtain ⟨hP, hD⟩ := va_join (wr := []) (w1 := [(mo, .inr (12, [.ref nw, .ref kp, .ref ik, .ref mr, .long la_, .long lb_, .ref mw, .long lc_, .int ti_, .int cb_, .long ld_, .long le_, .ref mq, .ref mz, .ref my, .int sm_, .ref mb, .int bl_, .int ta_, .int tl_, .int tk_, .int vl_, .ref mx, .ref mv])), (mr, .inl (cr_, 3, .inl gr__5))]) hP hD [0, 1] [] rfl rfl (by decide) (by decide) hk1 hFc hP1 hD1
      generalize H1 = H at hP hS ⊢
      have hP : va_P (dC, dI) vwCl [(mo, .inr (12, [.ref nw, .ref kp, .ref ik, .ref mr, .long la_, .long lb_, .ref mw, .long lc_, .int ti_, .int cb_, .long ld_, .long le_, .ref mq, .ref mz, .ref my, .int sm_, .ref mb, .int bl_, .int ta_, .int tl_, .int tk_, .int vl_, .ref mx, .ref mv])), (mr, .inl (cr_, 3, .inl gr__5))] H := hP
      have hD : va_D A [(mo, .inr (12, [.ref nw, .ref kp, .ref ik, .ref mr, .long la_, .long lb_, .ref mw, .long lc_, .int ti_, .int cb_, .long ld_, .long le_, .ref mq, .ref mz, .ref my, .int sm_, .ref mb, .int bl_, .int ta_, .int tl_, .int tk_, .int vl_, .ref mx, .ref mv])), (mr, .inl (cr_, 3, .inl gr__5))] := hD
      obtain rfl : (-2) = r_3 := hw_4.symm
      refine lv_i2l (v := (-2)) hx hb dX12_part_29 (by decide) ?_
      have hP9 := hP.sub (ws' := [(mo, .inr (12, [.ref nw, .ref kp, .ref ik, .ref mr, .long la_, .long lb_, .ref mw, .long lc_, .int ti_, .int cb_, .long ld_, .long le_, .ref mq, .ref mz, .ref my, .int sm_, .ref mb, .int bl_, .int ta_, .int tl_, .int tk_, .int vl_, .ref mx, .ref mv])), (mr, .inl (cr_, 3, .inl gr__5))]) [0, 1] rfl
      have hD9 := hD.sub (ws' := [(mo, .inr (12, [.ref nw, .ref kp, .ref ik, .ref mr, .long la_, .long lb_, .ref mw, .long lc_, .int ti_, .int cb_, .long ld_, .long le_, .ref mq, .ref mz, .ref my, .int sm_, .ref mb, .int bl_, .int ta_, .int tl_, .int tk_, .int vl_, .ref mx, .ref mv])), (mr, .inl (cr_, 3, .inl gr__5))]) [0, 1] (by decide) rfl
      have hK9 := hK.sub (tys' := [(cr_, .int)]) [0] rfl
      exact W.lret (v := (-2)) hx hb hr (fun t ht hW => ⟨⟨(-2), (), rfl, trivial, gr__5, by rw [ht]; exact hP9, va_K.moved hW.alike hK9, hD9⟩, hS.F ht⟩) hS.2.2 dX12_part_30
    · refine lv_aload_n hx hb dX12_part_16 rfl (lv_at hl 0 rfl) ?_
      refine va_get (D := (dC, dI)) (ci := 12) (v := .long lb_) (C := RX12) (T := TX12) (N := 24) hx hb hts iw_m_part_X12 hown hK hP 0 rfl rfl 5 (by decide) (hts (.fieldLink RX12 23 "ThriceCountedModel" "below" "J") (by decide +kernel)) (fun _ h9 => h9) rfl dX12_part_17 ?_
      refine lv_goto (tgt := 30) hx hb dX12_part_20 (by decide) ?_
      have hP9 := hP.sub (ws' := [(mo, .inr (12, [.ref nw, .ref kp, .ref ik, .ref mr, .long la_, .long lb_, .ref mw, .long lc_, .int ti_, .int cb_, .long ld_, .long le_, .ref mq, .ref mz, .ref my, .int sm_, .ref mb, .int bl_, .int ta_, .int tl_, .int tk_, .int vl_, .ref mx, .ref mv])), (mr, .inl (cr_, 3, .inl fr_))]) [0, 1] rfl
      have hD9 := hD.sub (ws' := [(mo, .inr (12, [.ref nw, .ref kp, .ref ik, .ref mr, .long la_, .long lb_, .ref mw, .long lc_, .int ti_, .int cb_, .long ld_, .long le_, .ref mq, .ref mz, .ref my, .int sm_, .ref mb, .int bl_, .int ta_, .int tl_, .int tk_, .int vl_, .ref mx, .ref mv])), (mr, .inl (cr_, 3, .inl fr_))]) [0, 1] (by decide) rfl
      have hK9 := hK.sub (tys' := [(cr_, .int)]) [0] rfl
      exact W.lret (v := lb_) hx hb hr (fun t ht hW => ⟨⟨lb_, (), rfl, trivial, fr_, by rw [ht]; exact hP9, va_K.moved hW.alike hK9, hD9⟩, hS.F ht⟩) hS.2.2 dX12_part_30
  · refine lv_aload_n hx hb dX12_part_4 rfl (lv_at hl 0 rfl) ?_
    refine va_get (D := (dC, dI)) (ci := 12) (v := .long la_) (C := RX12) (T := TX12) (N := 24) hx hb hts iw_m_part_X12 hown hK hP 0 rfl rfl 4 (by decide) (hts (.fieldLink RX12 148 "ThriceCountedModel" "above" "J") (by decide +kernel)) (fun _ h9 => h9) rfl dX12_part_5 ?_
    refine lv_goto (tgt := 30) hx hb dX12_part_8 (by decide) ?_
    have hP9 := hP.sub (ws' := [(mo, .inr (12, [.ref nw, .ref kp, .ref ik, .ref mr, .long la_, .long lb_, .ref mw, .long lc_, .int ti_, .int cb_, .long ld_, .long le_, .ref mq, .ref mz, .ref my, .int sm_, .ref mb, .int bl_, .int ta_, .int tl_, .int tk_, .int vl_, .ref mx, .ref mv])), (mr, .inl (cr_, 3, .inl fr_))]) [0, 1] rfl
    have hD9 := hD.sub (ws' := [(mo, .inr (12, [.ref nw, .ref kp, .ref ik, .ref mr, .long la_, .long lb_, .ref mw, .long lc_, .int ti_, .int cb_, .long ld_, .long le_, .ref mq, .ref mz, .ref my, .int sm_, .ref mb, .int bl_, .int ta_, .int tl_, .int tk_, .int vl_, .ref mx, .ref mv])), (mr, .inl (cr_, 3, .inl fr_))]) [0, 1] (by decide) rfl
    have hK9 := hK.sub (tys' := [(cr_, .int)]) [0] rfl
    exact W.lret (v := la_) hx hb hr (fun t ht hW => ⟨⟨la_, (), rfl, trivial, fr_, by rw [ht]; exact hP9, va_K.moved hW.alike hK9, hD9⟩, hS.F ht⟩) hS.2.2 dX12_part_30
set_option maxRecDepth 20000 in
theorem ggX12_of_X12_isCount : GoodIn wsX12_of wsX12_isCount := goodIn_r _ [6, 7, 8, 9, 5, 10, 20, 21, 22, 23, 24, 25, 26, 27, 28, 29, 30, 31, 32, 33, 34, 35, 36, 37, 38, 39, 40, 41, 42, 43] (by decide +kernel) (by decide +kernel)
set_option maxRecDepth 20000 in
theorem gX12_of_X12_isCount : GoodIn wsX12_of (wsV RX12 110 RX12 yX12_isCount wsX12_isCount) := goodIn_app (goodIn_of _ (by decide +kernel)) ggX12_of_X12_isCount
set_option maxRecDepth 20000 in
theorem ggX12_of_X12_in : GoodIn wsX12_of wsX12_in := goodIn_r _ [10] (by decide +kernel) (by decide +kernel)
set_option maxRecDepth 20000 in
theorem gX12_of_X12_in : GoodIn wsX12_of (va_wsS RX12 49 yX12_in wsX12_in) := goodIn_app (goodIn_of _ (by decide +kernel)) ggX12_of_X12_in
set_option maxRecDepth 20000 in
theorem ggX12_of_X12_countHas : GoodIn wsX12_of wsX12_countHas := goodIn_r _ [14, 7, 20, 21, 22, 23, 24, 25, 26, 27, 28, 29, 30, 31, 32, 33, 34, 35, 36, 37, 38, 39, 40, 41, 42, 43] (by decide +kernel) (by decide +kernel)
set_option maxRecDepth 20000 in
theorem gX12_of_X12_countHas : GoodIn wsX12_of (wsV RX12 143 RX12 yX12_countHas wsX12_countHas) := goodIn_app (goodIn_of _ (by decide +kernel)) ggX12_of_X12_countHas
set_option maxRecDepth 20000 in
theorem ggX12_of_X12_bad : GoodIn wsX12_of wsX12_bad := goodIn_r _ [18, 19, 20, 21, 22, 23, 24, 25, 26, 27, 28, 29, 30, 31, 32, 33, 34, 35, 36, 37, 38, 39, 40, 41, 42, 43] (by decide +kernel) (by decide +kernel)
set_option maxRecDepth 20000 in
theorem gX12_of_X12_bad : GoodIn wsX12_of (wsV RX12 61 RX12 yX12_bad wsX12_bad) := goodIn_app (goodIn_of _ (by decide +kernel)) ggX12_of_X12_bad
theorem dX12_of_0 : decode cX12_of 0 = .ok (.aload_n 0, 1) := by decide +kernel
theorem dX12_of_1 : decode cX12_of 1 = .ok (.iload_n 1, 1) := by decide +kernel
theorem dX12_of_2 : decode cX12_of 2 = .ok (.invokevirtual 110, 3) := by decide +kernel
theorem dX12_of_5 : decode cX12_of 5 = .ok (.ifCond .eq 24, 3) := by decide +kernel
theorem dX12_of_8 : decode cX12_of 8 = .ok (.iload_n 2, 1) := by decide +kernel
theorem dX12_of_9 : decode cX12_of 9 = .ok (.i2l, 1) := by decide +kernel
theorem dX12_of_10 : decode cX12_of 10 = .ok (.lconst 0, 1) := by decide +kernel
theorem dX12_of_11 : decode cX12_of 11 = .ok (.ldc2_w 141, 3) := by decide +kernel
theorem dX12_of_14 : decode cX12_of 14 = .ok (.invokestatic 49, 3) := by decide +kernel
theorem dX12_of_17 : decode cX12_of 17 = .ok (.ifCond .eq 12, 3) := by decide +kernel
theorem dX12_of_20 : decode cX12_of 20 = .ok (.aload_n 0, 1) := by decide +kernel
theorem dX12_of_21 : decode cX12_of 21 = .ok (.iload_n 1, 1) := by decide +kernel
theorem dX12_of_22 : decode cX12_of 22 = .ok (.iload_n 2, 1) := by decide +kernel
theorem dX12_of_23 : decode cX12_of 23 = .ok (.invokevirtual 143, 3) := by decide +kernel
theorem dX12_of_26 : decode cX12_of 26 = .ok (.goto 9, 3) := by decide +kernel
theorem dX12_of_35 : decode cX12_of 35 = .ok (.ireturn, 1) := by decide +kernel
theorem dX12_of_29 : decode cX12_of 29 = .ok (.aload_n 0, 1) := by decide +kernel
theorem dX12_of_30 : decode cX12_of 30 = .ok (.bipush (-2), 2) := by decide +kernel
theorem dX12_of_32 : decode cX12_of 32 = .ok (.invokevirtual 61, 3) := by decide +kernel
set_option maxHeartbeats 4000000 in
set_option maxRecDepth 100000 in
theorem m_of (l : Launch) (dC : Nat → ClassId) (dI : Nat → Nat → Nat) (mo : Nat) (nw : Nat) (kp : Nat) (ik : Nat) (mr : Nat) (la_ : Int64) (lb_ : Int64) (mw : Nat) (lc_ : Int64) (ti_ : Int32) (cb_ : Int32) (ld_ : Int64) (le_ : Int64) (mq : Nat) (mz : Nat) (my : Nat) (sm_ : Int32) (mb : Nat) (bl_ : Int32) (ta_ : Int32) (tl_ : Int32) (tk_ : Int32) (vl_ : Int32) (mx : Nat) (mv : Nat) (cn_ : ClassId) (fn : Nat → Int32) (cr_ : ClassId) (fr_ : Nat → Int32) (na : Int32) (nb : Int32) (sz : Nat) (hOn : tz_OK 350 fn) : Met l yX12_of wsX12_of ({ frames := 2, cells := 0, slots := 0, locals := 46 }) (va_Pc [.ref mo, .int na, .int nb] (fun U => U.heap.size = sz ∧ va_P (dC, dI) vwCl [(mo, .inr (12, [.ref nw, .ref kp, .ref ik, .ref mr, .long la_, .long lb_, .ref mw, .long lc_, .int ti_, .int cb_, .long ld_, .long le_, .ref mq, .ref mz, .ref my, .int sm_, .ref mb, .int bl_, .int ta_, .int tl_, .int tk_, .int vl_, .ref mx, .ref mv])), (nw, .inl (cn_, 350, .inl fn)), (mr, .inl (cr_, 3, .inl fr_))] U.heap ∧ va_K (dC, dI) vwCl [(cn_, .int), (cr_, .int)] U ∧ va_D (fun _ => True) [(mo, .inr (12, [.ref nw, .ref kp, .ref ik, .ref mr, .long la_, .long lb_, .ref mw, .long lc_, .int ti_, .int cb_, .long ld_, .long le_, .ref mq, .ref mz, .ref my, .int sm_, .ref mb, .int bl_, .int ta_, .int tl_, .int tk_, .int vl_, .ref mx, .ref mv])), (nw, .inl (cn_, 350, .inl fn)), (mr, .inl (cr_, 3, .inl fr_))])) (va_Qi (fun (r : Int32) (_ : Unit) => True) (fun _ t => ∃ (gr_ : Nat → Int32), va_P (dC, dI) vwCl [(mo, .inr (12, [.ref nw, .ref kp, .ref ik, .ref mr, .long la_, .long lb_, .ref mw, .long lc_, .int ti_, .int cb_, .long ld_, .long le_, .ref mq, .ref mz, .ref my, .int sm_, .ref mb, .int bl_, .int ta_, .int tl_, .int tk_, .int vl_, .ref mx, .ref mv])), (nw, .inl (cn_, 350, .inl fn)), (mr, .inl (cr_, 3, .inl gr_))] t.heap ∧ va_K (dC, dI) vwCl [(cn_, .int), (cr_, .int)] t ∧ va_D (va_A [(mo, .inr (12, [.ref nw, .ref kp, .ref ik, .ref mr, .long la_, .long lb_, .ref mw, .long lc_, .int ti_, .int cb_, .long ld_, .long le_, .ref mq, .ref mz, .ref my, .int sm_, .ref mb, .int bl_, .int ta_, .int tl_, .int tk_, .int vl_, .ref mx, .ref mv])), (nw, .inl (cn_, 350, .inl fn)), (mr, .inl (cr_, 3, .inl fr_))] sz) [(mo, .inr (12, [.ref nw, .ref kp, .ref ik, .ref mr, .long la_, .long lb_, .ref mw, .long lc_, .int ti_, .int cb_, .long ld_, .long le_, .ref mq, .ref mz, .ref my, .int sm_, .ref mb, .int bl_, .int ta_, .int tl_, .int tk_, .int vl_, .ref mx, .ref mv])), (nw, .inl (cn_, 350, .inl fn)), (mr, .inl (cr_, 3, .inl gr_))]) (va_A [(mo, .inr (12, [.ref nw, .ref kp, .ref ik, .ref mr, .long la_, .long lb_, .ref mw, .long lc_, .int ti_, .int cb_, .long ld_, .long le_, .ref mq, .ref mz, .ref my, .int sm_, .ref mb, .int bl_, .int ta_, .int tl_, .int tk_, .int vl_, .ref mx, .ref mv])), (nw, .inl (cn_, 350, .inl fn)), (mr, .inl (cr_, 3, .inl fr_))] sz)) 0 0 (va_A [(mo, .inr (12, [.ref nw, .ref kp, .ref ik, .ref mr, .long la_, .long lb_, .ref mw, .long lc_, .int ti_, .int cb_, .long ld_, .long le_, .ref mq, .ref mz, .ref my, .int sm_, .ref mb, .int bl_, .int ta_, .int tl_, .int tk_, .int vl_, .ref mx, .ref mv])), (nw, .inl (cn_, 350, .inl fn)), (mr, .inl (cr_, 3, .inl fr_))] sz) := by
  refine Met.ofW (cc := cX12_of) (maxL := 3) (ret := (some .int)) (by decide) rfl ?_
  intro p e s m args below meth c s₁ B hml hv
  obtain ⟨rfl, hsz, hP, hK, hD0⟩ := hv
  have hx := B.exec
  have hb := B.bytes
  have hr := B.returns
  have hts := atoms_spec (ws := wsX12_of) B.pre
  have hown : s.vm.findClass RX12 = some m.cls := findClass_of_methodNamed B.named
  have hlocks := B.notSynchronized
  subst hsz
  have hD := hD0.self (sz := s.heap.size)
  generalize hAe : va_A [(mo, .inr (12, [.ref nw, .ref kp, .ref ik, .ref mr, .long la_, .long lb_, .ref mw, .long lc_, .int ti_, .int cb_, .long ld_, .long le_, .ref mq, .ref mz, .ref my, .int sm_, .ref mb, .int bl_, .int ta_, .int tl_, .int tk_, .int vl_, .ref mx, .ref mv])), (nw, .inl (cn_, 350, .inl fn)), (mr, .inl (cr_, 3, .inl fr_))] s.heap.size = A at hD ⊢
  have hA : ∀ q : Nat, s.heap.size ≤ q → A q := fun q h => by rw [← hAe]; exact Or.inr h
  have hS : va_S A s.heap s.heap [] := va_S.rf
  have hP : va_P (dC, dI) vwCl [(mo, .inr (12, [.ref nw, .ref kp, .ref ik, .ref mr, .long la_, .long lb_, .ref mw, .long lc_, .int ti_, .int cb_, .long ld_, .long le_, .ref mq, .ref mz, .ref my, .int sm_, .ref mb, .int bl_, .int ta_, .int tl_, .int tk_, .int vl_, .ref mx, .ref mv])), (nw, .inl (cn_, 350, .inl fn)), (mr, .inl (cr_, 3, .inl fr_))] s.heap := hP
  have hl := lv_entry ([.ref mo, .int na, .int nb]) (n := 3) (Nat.le_of_ble_eq_true rfl)
  rw [lg_entry_eq]
  generalize (lg_sl ([.ref mo, .int na, .int nb]) ++ List.replicate (3 - (lg_sl ([.ref mo, .int na, .int nb])).length) Slot.unset).toArray = ls at hl ⊢
  have hl : lv_has ls 3 [(0, .ref mo), (1, .int na), (2, .int nb)] := hl
  refine lv_aload_n hx hb dX12_of_0 rfl (lv_at hl 0 rfl) ?_
  refine lv_iload_n hx hb dX12_of_1 rfl (lv_at hl 1 rfl) ?_
  have hPc_1 := hP.sub (ws' := [(mo, .inr (12, [.ref nw, .ref kp, .ref ik, .ref mr, .long la_, .long lb_, .ref mw, .long lc_, .int ti_, .int cb_, .long ld_, .long le_, .ref mq, .ref mz, .ref my, .int sm_, .ref mb, .int bl_, .int ta_, .int tl_, .int tk_, .int vl_, .ref mx, .ref mv])), (nw, .inl (cn_, 350, .inl fn))]) [0, 1] rfl
  have hKc_2 := hK.sub (tys' := [(cn_, .int)]) [0] rfl
  refine vp_callSi (va_Run.run (va_runV (As := [.int na]) (rest := []) ⟨hx, hb, hml, hown, hts⟩ (m_isCount l dC dI mo nw kp ik mr la_ lb_ mw lc_ ti_ cb_ ld_ le_ mq mz my sm_ mb bl_ ta_ tl_ tk_ vl_ mx mv cn_ fn na hOn) (cwV 1 hts gX12_of_X12_isCount rfl rfl rfl (by decide +kernel) ⟨Nat.le_of_ble_eq_true rfl, Nat.le_of_ble_eq_true rfl⟩) ⟨fun a U g mk q => by obtain ⟨q0, qP, qK⟩ := q; exact ⟨q0, qP, va_K.moved (u := U) (U := U.calling g mk a) (Vm.Alike.refl U.vm) qK⟩, va_recv hK hP (ci := 12) (q0 := 0) rfl rfl, fun U hU hW => ⟨rfl, by rw [hU]; exact hPc_1, va_K.moved hW.alike hKc_2⟩⟩ rfl rfl hl.1 rfl (lv_room (Nat.le_of_ble_eq_true rfl)) dX12_of_2 ⟨Nat.le_of_ble_eq_true rfl, Nat.le_of_ble_eq_true rfl⟩)) (fun r_3 hw_4 => ?_)
  by_cases hc_5 : 0 ≤ na ∧ na < (fn 2)
  · obtain rfl : 1 = r_3 := (hw_4.trans (if_pos hc_5)).symm
    obtain ⟨j_7, hj_8, ej_9⟩ := hOn.nat (K := 2) (n := 8) (by omega) (show tz_b 2 = (0, 8) from by decide)
    obtain ⟨j_6, hj_10, rfl⟩ := tz_idx2 (J := j_7) hc_5 ej_9 (by omega)
    refine lv_if_eq (tgt := 29) hx hb dX12_of_5 (by decide) (fun c_11 => ?_) (fun c_11 => ?_)
    · exact absurd c_11 (by decide)
    · refine lv_iload_n hx hb dX12_of_8 rfl (lv_at hl 2 rfl) ?_
      refine lv_i2l (v := nb.toInt64) hx hb dX12_of_9 rfl ?_
      refine lv_lconst (v := 0) hx hb dX12_of_10 (by decide) ?_
      refine lv_ldc2 hx hb hown (hts (.constantLong RX12 141 (3)) (by decide +kernel)) dX12_of_11 ?_
      refine vp_callSi (va_Run.run (va_runS (As := [.long nb.toInt64, .long 0, .long 3]) (rest := []) ⟨hx, hb, hml, hown, hts⟩ (m_in l dC dI nb.toInt64 0 3) (va_cwS 3 hts gX12_of_X12_in rfl rfl rfl (by decide +kernel) ⟨Nat.le_of_ble_eq_true rfl, Nat.le_of_ble_eq_true rfl⟩) ⟨fun a U g mk q => ⟨q.1, trivial⟩, fun U hU hW => ⟨rfl, trivial⟩⟩ rfl rfl hl.1 rfl (lv_room (Nat.le_of_ble_eq_true rfl)) dX12_of_14 ⟨Nat.le_of_ble_eq_true rfl, Nat.le_of_ble_eq_true rfl⟩)) (fun r_12 hw_13 => ?_)
      by_cases hc_14 : 0 ≤ nb ∧ nb ≤ 3
      · obtain rfl : 1 = r_12 := (hw_13.trans (if_pos ((tz_in64 (by first | rfl | decide) rfl (by first | rfl | decide)).mpr hc_14))).symm
        obtain ⟨j_15, hj_16, hj_17, rfl⟩ := tz_pickL (l := 0) (n := 3) hc_14 (by decide) (by decide)
        refine lv_if_eq (tgt := 29) hx hb dX12_of_17 (by decide) (fun c_18 => ?_) (fun c_18 => ?_)
        · exact absurd c_18 (by decide)
        · refine lv_aload_n hx hb dX12_of_20 rfl (lv_at hl 0 rfl) ?_
          refine lv_iload_n hx hb dX12_of_21 rfl (lv_at hl 1 rfl) ?_
          refine lv_iload_n hx hb dX12_of_22 rfl (lv_at hl 2 rfl) ?_
          have hPc_19 := hP.sub (ws' := [(mo, .inr (12, [.ref nw, .ref kp, .ref ik, .ref mr, .long la_, .long lb_, .ref mw, .long lc_, .int ti_, .int cb_, .long ld_, .long le_, .ref mq, .ref mz, .ref my, .int sm_, .ref mb, .int bl_, .int ta_, .int tl_, .int tk_, .int vl_, .ref mx, .ref mv])), (nw, .inl (cn_, 350, .inl fn))]) [0, 1] rfl
          have hKc_20 := hK.sub (tys' := [(cn_, .int)]) [0] rfl
          refine vp_callSi (va_Run.run (va_runV (As := [.int (nI j_6), .int (nI j_15)]) (rest := []) ⟨hx, hb, hml, hown, hts⟩ (m_countHasX l dC dI mo nw kp ik mr la_ lb_ mw lc_ ti_ cb_ ld_ le_ mq mz my sm_ mb bl_ ta_ tl_ tk_ vl_ mx mv cn_ fn j_6 j_15 hOn (by omega) (by omega)) (cwV 2 hts gX12_of_X12_countHas rfl rfl rfl (by decide +kernel) ⟨Nat.le_of_ble_eq_true rfl, Nat.le_of_ble_eq_true rfl⟩) ⟨fun a U g mk q => by obtain ⟨q0, qP, qK⟩ := q; exact ⟨q0, qP, va_K.moved (u := U) (U := U.calling g mk a) (Vm.Alike.refl U.vm) qK⟩, va_recv hK hP (ci := 12) (q0 := 0) rfl rfl, fun U hU hW => ⟨rfl, by rw [hU]; exact hPc_19, va_K.moved hW.alike hKc_20⟩⟩ rfl rfl hl.1 rfl (lv_room (Nat.le_of_ble_eq_true rfl)) dX12_of_23 ⟨Nat.le_of_ble_eq_true rfl, Nat.le_of_ble_eq_true rfl⟩)) (fun r_21 hw_22 => ?_)
          refine lv_goto (tgt := 35) hx hb dX12_of_26 (by decide) ?_
          have hP9 := hP.sub (ws' := [(mo, .inr (12, [.ref nw, .ref kp, .ref ik, .ref mr, .long la_, .long lb_, .ref mw, .long lc_, .int ti_, .int cb_, .long ld_, .long le_, .ref mq, .ref mz, .ref my, .int sm_, .ref mb, .int bl_, .int ta_, .int tl_, .int tk_, .int vl_, .ref mx, .ref mv])), (nw, .inl (cn_, 350, .inl fn)), (mr, .inl (cr_, 3, .inl fr_))]) [0, 1, 2] rfl
          have hD9 := hD.sub (ws' := [(mo, .inr (12, [.ref nw, .ref kp, .ref ik, .ref mr, .long la_, .long lb_, .ref mw, .long lc_, .int ti_, .int cb_, .long ld_, .long le_, .ref mq, .ref mz, .ref my, .int sm_, .ref mb, .int bl_, .int ta_, .int tl_, .int tk_, .int vl_, .ref mx, .ref mv])), (nw, .inl (cn_, 350, .inl fn)), (mr, .inl (cr_, 3, .inl fr_))]) [0, 1, 2] (by decide) rfl
          have hK9 := hK.sub (tys' := [(cn_, .int), (cr_, .int)]) [0, 1] rfl
          exact W.iret (v := r_21) hx hb hr (fun t ht hW => ⟨⟨r_21, (), rfl, trivial, fr_, by rw [ht]; exact hP9, va_K.moved hW.alike hK9, hD9⟩, hS.F ht⟩) hS.2.2 dX12_of_35
      · obtain rfl : 0 = r_12 := (hw_13.trans (if_neg (fun z => hc_14 ((tz_in64 (by first | rfl | decide) rfl (by first | rfl | decide)).mp z)))).symm
        refine lv_if_eq (tgt := 29) hx hb dX12_of_17 (by decide) (fun c_23 => ?_) (fun c_23 => ?_)
        · refine lv_aload_n hx hb dX12_of_29 rfl (lv_at hl 0 rfl) ?_
          refine lv_bipush (v := (-2)) hx hb dX12_of_30 (by decide) ?_
          have hPc := hP.sub (ws' := [(mo, .inr (12, [.ref nw, .ref kp, .ref ik, .ref mr, .long la_, .long lb_, .ref mw, .long lc_, .int ti_, .int cb_, .long ld_, .long le_, .ref mq, .ref mz, .ref my, .int sm_, .ref mb, .int bl_, .int ta_, .int tl_, .int tk_, .int vl_, .ref mx, .ref mv])), (mr, .inl (cr_, 3, .inl fr_))]) [0, 2] rfl
          have hDc := hD.sub (ws' := [(mo, .inr (12, [.ref nw, .ref kp, .ref ik, .ref mr, .long la_, .long lb_, .ref mw, .long lc_, .int ti_, .int cb_, .long ld_, .long le_, .ref mq, .ref mz, .ref my, .int sm_, .ref mb, .int bl_, .int ta_, .int tl_, .int tk_, .int vl_, .ref mx, .ref mv])), (mr, .inl (cr_, 3, .inl fr_))]) [0, 2] (by decide) rfl
          have hKc := hK.sub (tys' := [(cr_, .int)]) [1] rfl
          have hFc := va_free (wc := [(mo, .inr (12, [.ref nw, .ref kp, .ref ik, .ref mr, .long la_, .long lb_, .ref mw, .long lc_, .int ti_, .int cb_, .long ld_, .long le_, .ref mq, .ref mz, .ref my, .int sm_, .ref mb, .int bl_, .int ta_, .int tl_, .int tk_, .int vl_, .ref mx, .ref mv])), (mr, .inl (cr_, 3, .inl fr_))]) hD hS hA [0, 2] rfl
          refine va_calli (va_runV (As := [.int (-2)]) (rest := []) ⟨hx, hb, hml, hown, hts⟩ (m_bad l dC dI mo nw kp ik mr la_ lb_ mw lc_ ti_ cb_ ld_ le_ mq mz my sm_ mb bl_ ta_ tl_ tk_ vl_ mx mv cr_ fr_ (-2) s.heap.size) (cwV 1 hts gX12_of_X12_bad rfl rfl rfl (by decide +kernel) ⟨Nat.le_of_ble_eq_true rfl, Nat.le_of_ble_eq_true rfl⟩) ⟨fun a U g mk q => by obtain ⟨q0, q1, qP, qK, qD⟩ := q; exact ⟨q0, q1, qP, va_K.moved (u := U) (U := U.calling g mk a) (Vm.Alike.refl U.vm) qK, qD⟩, va_recv hK hP (ci := 12) (q0 := 0) rfl rfl, fun U hU hW => ⟨rfl, by rw [hU], by rw [hU]; exact hPc, va_K.moved hW.alike hKc, hDc.weaken (fun _ _ _ _ => trivial)⟩⟩ rfl rfl hl.1 rfl (lv_room (Nat.le_of_ble_eq_true rfl)) dX12_of_32 ⟨Nat.le_of_ble_eq_true rfl, Nat.le_of_ble_eq_true rfl⟩) hS (fun q _ h => hFc q h) hFc (fun r_24 u_ t H1 locs ht hvm hw_25 hB hz1 hk1 hS => ?_)
          obtain ⟨gr__26, hP1, hK1, hD1⟩ := hB
          rw [ht] at hP1
          have hK1 := va_K.moved hvm.symm hK1
          obtain ⟨hP, hD⟩ := va_join (wr := [(nw, .inl (cn_, 350, .inl fn))]) (w1 := [(mo, .inr (12, [.ref nw, .ref kp, .ref ik, .ref mr, .long la_, .long lb_, .ref mw, .long lc_, .int ti_, .int cb_, .long ld_, .long le_, .ref mq, .ref mz, .ref my, .int sm_, .ref mb, .int bl_, .int ta_, .int tl_, .int tk_, .int vl_, .ref mx, .ref mv])), (mr, .inl (cr_, 3, .inl gr__26))]) hP hD [0, 2] [1] rfl rfl (by decide) (by decide) hk1 hFc hP1 hD1
          generalize H1 = H at hP hS ⊢
          have hP : va_P (dC, dI) vwCl [(nw, .inl (cn_, 350, .inl fn)), (mo, .inr (12, [.ref nw, .ref kp, .ref ik, .ref mr, .long la_, .long lb_, .ref mw, .long lc_, .int ti_, .int cb_, .long ld_, .long le_, .ref mq, .ref mz, .ref my, .int sm_, .ref mb, .int bl_, .int ta_, .int tl_, .int tk_, .int vl_, .ref mx, .ref mv])), (mr, .inl (cr_, 3, .inl gr__26))] H := hP
          have hD : va_D A [(nw, .inl (cn_, 350, .inl fn)), (mo, .inr (12, [.ref nw, .ref kp, .ref ik, .ref mr, .long la_, .long lb_, .ref mw, .long lc_, .int ti_, .int cb_, .long ld_, .long le_, .ref mq, .ref mz, .ref my, .int sm_, .ref mb, .int bl_, .int ta_, .int tl_, .int tk_, .int vl_, .ref mx, .ref mv])), (mr, .inl (cr_, 3, .inl gr__26))] := hD
          obtain rfl : (-2) = r_24 := hw_25.symm
          have hP9 := hP.sub (ws' := [(mo, .inr (12, [.ref nw, .ref kp, .ref ik, .ref mr, .long la_, .long lb_, .ref mw, .long lc_, .int ti_, .int cb_, .long ld_, .long le_, .ref mq, .ref mz, .ref my, .int sm_, .ref mb, .int bl_, .int ta_, .int tl_, .int tk_, .int vl_, .ref mx, .ref mv])), (nw, .inl (cn_, 350, .inl fn)), (mr, .inl (cr_, 3, .inl gr__26))]) [1, 0, 2] rfl
          have hD9 := hD.sub (ws' := [(mo, .inr (12, [.ref nw, .ref kp, .ref ik, .ref mr, .long la_, .long lb_, .ref mw, .long lc_, .int ti_, .int cb_, .long ld_, .long le_, .ref mq, .ref mz, .ref my, .int sm_, .ref mb, .int bl_, .int ta_, .int tl_, .int tk_, .int vl_, .ref mx, .ref mv])), (nw, .inl (cn_, 350, .inl fn)), (mr, .inl (cr_, 3, .inl gr__26))]) [1, 0, 2] (by decide) rfl
          have hK9 := hK.sub (tys' := [(cn_, .int), (cr_, .int)]) [0, 1] rfl
          exact W.iret (v := (-2)) hx hb hr (fun t ht hW => ⟨⟨(-2), (), rfl, trivial, gr__26, by rw [ht]; exact hP9, va_K.moved hW.alike hK9, hD9⟩, hS.F ht⟩) hS.2.2 dX12_of_35
        · exact absurd c_23 (by decide)
  · obtain rfl : 0 = r_3 := (hw_4.trans (if_neg hc_5)).symm
    refine lv_if_eq (tgt := 29) hx hb dX12_of_5 (by decide) (fun c_27 => ?_) (fun c_27 => ?_)
    · refine lv_aload_n hx hb dX12_of_29 rfl (lv_at hl 0 rfl) ?_
      refine lv_bipush (v := (-2)) hx hb dX12_of_30 (by decide) ?_
      have hPc := hP.sub (ws' := [(mo, .inr (12, [.ref nw, .ref kp, .ref ik, .ref mr, .long la_, .long lb_, .ref mw, .long lc_, .int ti_, .int cb_, .long ld_, .long le_, .ref mq, .ref mz, .ref my, .int sm_, .ref mb, .int bl_, .int ta_, .int tl_, .int tk_, .int vl_, .ref mx, .ref mv])), (mr, .inl (cr_, 3, .inl fr_))]) [0, 2] rfl
      have hDc := hD.sub (ws' := [(mo, .inr (12, [.ref nw, .ref kp, .ref ik, .ref mr, .long la_, .long lb_, .ref mw, .long lc_, .int ti_, .int cb_, .long ld_, .long le_, .ref mq, .ref mz, .ref my, .int sm_, .ref mb, .int bl_, .int ta_, .int tl_, .int tk_, .int vl_, .ref mx, .ref mv])), (mr, .inl (cr_, 3, .inl fr_))]) [0, 2] (by decide) rfl
      have hKc := hK.sub (tys' := [(cr_, .int)]) [1] rfl
      have hFc := va_free (wc := [(mo, .inr (12, [.ref nw, .ref kp, .ref ik, .ref mr, .long la_, .long lb_, .ref mw, .long lc_, .int ti_, .int cb_, .long ld_, .long le_, .ref mq, .ref mz, .ref my, .int sm_, .ref mb, .int bl_, .int ta_, .int tl_, .int tk_, .int vl_, .ref mx, .ref mv])), (mr, .inl (cr_, 3, .inl fr_))]) hD hS hA [0, 2] rfl
      refine va_calli (va_runV (As := [.int (-2)]) (rest := []) ⟨hx, hb, hml, hown, hts⟩ (m_bad l dC dI mo nw kp ik mr la_ lb_ mw lc_ ti_ cb_ ld_ le_ mq mz my sm_ mb bl_ ta_ tl_ tk_ vl_ mx mv cr_ fr_ (-2) s.heap.size) (cwV 1 hts gX12_of_X12_bad rfl rfl rfl (by decide +kernel) ⟨Nat.le_of_ble_eq_true rfl, Nat.le_of_ble_eq_true rfl⟩) ⟨fun a U g mk q => by obtain ⟨q0, q1, qP, qK, qD⟩ := q; exact ⟨q0, q1, qP, va_K.moved (u := U) (U := U.calling g mk a) (Vm.Alike.refl U.vm) qK, qD⟩, va_recv hK hP (ci := 12) (q0 := 0) rfl rfl, fun U hU hW => ⟨rfl, by rw [hU], by rw [hU]; exact hPc, va_K.moved hW.alike hKc, hDc.weaken (fun _ _ _ _ => trivial)⟩⟩ rfl rfl hl.1 rfl (lv_room (Nat.le_of_ble_eq_true rfl)) dX12_of_32 ⟨Nat.le_of_ble_eq_true rfl, Nat.le_of_ble_eq_true rfl⟩) hS (fun q _ h => hFc q h) hFc (fun r_28 u_ t H1 locs ht hvm hw_29 hB hz1 hk1 hS => ?_)
      obtain ⟨gr__30, hP1, hK1, hD1⟩ := hB
      rw [ht] at hP1
      have hK1 := va_K.moved hvm.symm hK1
      obtain ⟨hP, hD⟩ := va_join (wr := [(nw, .inl (cn_, 350, .inl fn))]) (w1 := [(mo, .inr (12, [.ref nw, .ref kp, .ref ik, .ref mr, .long la_, .long lb_, .ref mw, .long lc_, .int ti_, .int cb_, .long ld_, .long le_, .ref mq, .ref mz, .ref my, .int sm_, .ref mb, .int bl_, .int ta_, .int tl_, .int tk_, .int vl_, .ref mx, .ref mv])), (mr, .inl (cr_, 3, .inl gr__30))]) hP hD [0, 2] [1] rfl rfl (by decide) (by decide) hk1 hFc hP1 hD1
      generalize H1 = H at hP hS ⊢
      have hP : va_P (dC, dI) vwCl [(nw, .inl (cn_, 350, .inl fn)), (mo, .inr (12, [.ref nw, .ref kp, .ref ik, .ref mr, .long la_, .long lb_, .ref mw, .long lc_, .int ti_, .int cb_, .long ld_, .long le_, .ref mq, .ref mz, .ref my, .int sm_, .ref mb, .int bl_, .int ta_, .int tl_, .int tk_, .int vl_, .ref mx, .ref mv])), (mr, .inl (cr_, 3, .inl gr__30))] H := hP
      have hD : va_D A [(nw, .inl (cn_, 350, .inl fn)), (mo, .inr (12, [.ref nw, .ref kp, .ref ik, .ref mr, .long la_, .long lb_, .ref mw, .long lc_, .int ti_, .int cb_, .long ld_, .long le_, .ref mq, .ref mz, .ref my, .int sm_, .ref mb, .int bl_, .int ta_, .int tl_, .int tk_, .int vl_, .ref mx, .ref mv])), (mr, .inl (cr_, 3, .inl gr__30))] := hD
      obtain rfl : (-2) = r_28 := hw_29.symm
      have hP9 := hP.sub (ws' := [(mo, .inr (12, [.ref nw, .ref kp, .ref ik, .ref mr, .long la_, .long lb_, .ref mw, .long lc_, .int ti_, .int cb_, .long ld_, .long le_, .ref mq, .ref mz, .ref my, .int sm_, .ref mb, .int bl_, .int ta_, .int tl_, .int tk_, .int vl_, .ref mx, .ref mv])), (nw, .inl (cn_, 350, .inl fn)), (mr, .inl (cr_, 3, .inl gr__30))]) [1, 0, 2] rfl
      have hD9 := hD.sub (ws' := [(mo, .inr (12, [.ref nw, .ref kp, .ref ik, .ref mr, .long la_, .long lb_, .ref mw, .long lc_, .int ti_, .int cb_, .long ld_, .long le_, .ref mq, .ref mz, .ref my, .int sm_, .ref mb, .int bl_, .int ta_, .int tl_, .int tk_, .int vl_, .ref mx, .ref mv])), (nw, .inl (cn_, 350, .inl fn)), (mr, .inl (cr_, 3, .inl gr__30))]) [1, 0, 2] (by decide) rfl
      have hK9 := hK.sub (tys' := [(cn_, .int), (cr_, .int)]) [0, 1] rfl
      exact W.iret (v := (-2)) hx hb hr (fun t ht hW => ⟨⟨(-2), (), rfl, trivial, gr__30, by rw [ht]; exact hP9, va_K.moved hW.alike hK9, hD9⟩, hS.F ht⟩) hS.2.2 dX12_of_35
    · exact absurd c_27 (by decide)
set_option maxRecDepth 20000 in
theorem ggX12_about_X12_isBundle : GoodIn wsX12_about wsX12_isBundle := goodIn_r _ [7, 2, 8, 9, 6, 10, 24, 25, 26, 27, 28, 29, 30, 31, 32, 33, 34, 35, 36, 37, 38, 39, 40, 41, 42, 43, 44, 45, 46, 47] (by decide +kernel) (by decide +kernel)
set_option maxRecDepth 20000 in
theorem gX12_about_X12_isBundle : GoodIn wsX12_about (wsV RX12 81 RX12 yX12_isBundle wsX12_isBundle) := goodIn_app (goodIn_of _ (by decide +kernel)) ggX12_about_X12_isBundle
set_option maxRecDepth 20000 in
theorem ggX12_about_X12_in : GoodIn wsX12_about wsX12_in := goodIn_r _ [10] (by decide +kernel) (by decide +kernel)
set_option maxRecDepth 20000 in
theorem gX12_about_X12_in : GoodIn wsX12_about (va_wsS RX12 49 yX12_in wsX12_in) := goodIn_app (goodIn_of _ (by decide +kernel)) ggX12_about_X12_in
set_option maxRecDepth 20000 in
theorem ggX12_about_X12_countHas : GoodIn wsX12_about wsX12_countHas := goodIn_r _ [23, 2, 24, 25, 26, 27, 28, 29, 30, 31, 32, 33, 34, 35, 36, 37, 38, 39, 40, 41, 42, 43, 44, 45, 46, 47] (by decide +kernel) (by decide +kernel)
set_option maxRecDepth 20000 in
theorem gX12_about_X12_countHas : GoodIn wsX12_about (wsV RX12 143 RX12 yX12_countHas wsX12_countHas) := goodIn_app (goodIn_of _ (by decide +kernel)) ggX12_about_X12_countHas
set_option maxRecDepth 20000 in
theorem ggX12_about_X12_bundleHas : GoodIn wsX12_about wsX12_bundleHas := goodIn_r _ [19, 2, 24, 25, 26, 27, 28, 29, 30, 31, 32, 33, 34, 35, 36, 37, 38, 39, 40, 41, 42, 43, 44, 45, 46, 47] (by decide +kernel) (by decide +kernel)
set_option maxRecDepth 20000 in
theorem gX12_about_X12_bundleHas : GoodIn wsX12_about (wsV RX12 88 RX12 yX12_bundleHas wsX12_bundleHas) := goodIn_app (goodIn_of _ (by decide +kernel)) ggX12_about_X12_bundleHas
set_option maxRecDepth 20000 in
theorem ggX12_about_X12_bad : GoodIn wsX12_about wsX12_bad := goodIn_r _ [14, 15, 24, 25, 26, 27, 28, 29, 30, 31, 32, 33, 34, 35, 36, 37, 38, 39, 40, 41, 42, 43, 44, 45, 46, 47] (by decide +kernel) (by decide +kernel)
set_option maxRecDepth 20000 in
theorem gX12_about_X12_bad : GoodIn wsX12_about (wsV RX12 61 RX12 yX12_bad wsX12_bad) := goodIn_app (goodIn_of _ (by decide +kernel)) ggX12_about_X12_bad
theorem dX12_about_0 : decode cX12_about 0 = .ok (.aload_n 0, 1) := by decide +kernel
theorem dX12_about_1 : decode cX12_about 1 = .ok (.iload_n 1, 1) := by decide +kernel
theorem dX12_about_2 : decode cX12_about 2 = .ok (.invokevirtual 81, 3) := by decide +kernel
theorem dX12_about_5 : decode cX12_about 5 = .ok (.ifCond .eq 15, 3) := by decide +kernel
theorem dX12_about_8 : decode cX12_about 8 = .ok (.iload_n 2, 1) := by decide +kernel
theorem dX12_about_9 : decode cX12_about 9 = .ok (.i2l, 1) := by decide +kernel
theorem dX12_about_10 : decode cX12_about 10 = .ok (.lconst 0, 1) := by decide +kernel
theorem dX12_about_11 : decode cX12_about 11 = .ok (.ldc2_w 146, 3) := by decide +kernel
theorem dX12_about_14 : decode cX12_about 14 = .ok (.invokestatic 49, 3) := by decide +kernel
theorem dX12_about_17 : decode cX12_about 17 = .ok (.ifCond .ne 10, 3) := by decide +kernel
theorem dX12_about_27 : decode cX12_about 27 = .ok (.iload_n 2, 1) := by decide +kernel
theorem dX12_about_28 : decode cX12_about 28 = .ok (.iconst 4, 1) := by decide +kernel
theorem dX12_about_29 : decode cX12_about 29 = .ok (.if_icmp .ge 10, 3) := by decide +kernel
theorem dX12_about_39 : decode cX12_about 39 = .ok (.iconst 0, 1) := by decide +kernel
theorem dX12_about_40 : decode cX12_about 40 = .ok (.istore_n 3, 1) := by decide +kernel
theorem dX12_about_41 : decode cX12_about 41 = .ok (.iconst 0, 1) := by decide +kernel
theorem dX12_about_42 : decode cX12_about 42 = .ok (.istore 4, 2) := by decide +kernel
theorem dX12_about_44 : decode cX12_about 44 = .ok (.iload 4, 2) := by decide +kernel
theorem dX12_about_46 : decode cX12_about 46 = .ok (.aload_n 0, 1) := by decide +kernel
theorem dX12_about_47 : decode cX12_about 47 = .ok (.getfield 7, 3) := by decide +kernel
theorem dX12_about_50 : decode cX12_about 50 = .ok (.iconst 2, 1) := by decide +kernel
theorem dX12_about_51 : decode cX12_about 51 = .ok (.iaload, 1) := by decide +kernel
theorem dX12_about_52 : decode cX12_about 52 = .ok (.if_icmp .ge 28, 3) := by decide +kernel
theorem dX12_about_55 : decode cX12_about 55 = .ok (.iload_n 3, 1) := by decide +kernel
theorem dX12_about_56 : decode cX12_about 56 = .ok (.aload_n 0, 1) := by decide +kernel
theorem dX12_about_57 : decode cX12_about 57 = .ok (.iload 4, 2) := by decide +kernel
theorem dX12_about_59 : decode cX12_about 59 = .ok (.iconst 0, 1) := by decide +kernel
theorem dX12_about_60 : decode cX12_about 60 = .ok (.invokevirtual 143, 3) := by decide +kernel
theorem dX12_about_63 : decode cX12_about 63 = .ok (.iload_n 1, 1) := by decide +kernel
theorem dX12_about_64 : decode cX12_about 64 = .ok (.if_icmp .ne 7, 3) := by decide +kernel
theorem dX12_about_71 : decode cX12_about 71 = .ok (.iconst 0, 1) := by decide +kernel
theorem dX12_about_72 : decode cX12_about 72 = .ok (.iadd, 1) := by decide +kernel
theorem dX12_about_73 : decode cX12_about 73 = .ok (.istore_n 3, 1) := by decide +kernel
theorem dX12_about_74 : decode cX12_about 74 = .ok (.iinc 4 1, 3) := by decide +kernel
theorem dX12_about_77 : decode cX12_about 77 = .ok (.goto (-33), 3) := by decide +kernel
theorem dX12_about_67 : decode cX12_about 67 = .ok (.iconst 1, 1) := by decide +kernel
theorem dX12_about_68 : decode cX12_about 68 = .ok (.goto 4, 3) := by decide +kernel
theorem dX12_about_80 : decode cX12_about 80 = .ok (.iload_n 3, 1) := by decide +kernel
theorem dX12_about_81 : decode cX12_about 81 = .ok (.ireturn, 1) := by decide +kernel
theorem dX12_about_32 : decode cX12_about 32 = .ok (.aload_n 0, 1) := by decide +kernel
theorem dX12_about_33 : decode cX12_about 33 = .ok (.iload_n 1, 1) := by decide +kernel
theorem dX12_about_34 : decode cX12_about 34 = .ok (.iload_n 2, 1) := by decide +kernel
theorem dX12_about_35 : decode cX12_about 35 = .ok (.invokevirtual 88, 3) := by decide +kernel
theorem dX12_about_38 : decode cX12_about 38 = .ok (.ireturn, 1) := by decide +kernel
theorem dX12_about_20 : decode cX12_about 20 = .ok (.aload_n 0, 1) := by decide +kernel
theorem dX12_about_21 : decode cX12_about 21 = .ok (.bipush (-10), 2) := by decide +kernel
theorem dX12_about_23 : decode cX12_about 23 = .ok (.invokevirtual 61, 3) := by decide +kernel
theorem dX12_about_26 : decode cX12_about 26 = .ok (.ireturn, 1) := by decide +kernel
set_option maxRecDepth 20000 in
theorem iw_m_about_X12 : ∀ w ∈ wsX120, w ∈ wsX12_about := by decide +kernel
set_option maxHeartbeats 4000000 in
set_option maxRecDepth 100000 in
theorem m_about (l : Launch) (dC : Nat → ClassId) (dI : Nat → Nat → Nat) (mo : Nat) (nw : Nat) (kp : Nat) (ik : Nat) (mr : Nat) (la_ : Int64) (lb_ : Int64) (mw : Nat) (lc_ : Int64) (ti_ : Int32) (cb_ : Int32) (ld_ : Int64) (le_ : Int64) (mq : Nat) (mz : Nat) (my : Nat) (sm_ : Int32) (mb : Nat) (bl_ : Int32) (ta_ : Int32) (tl_ : Int32) (tk_ : Int32) (vl_ : Int32) (mx : Nat) (mv : Nat) (cn_ : ClassId) (fn : Nat → Int32) (cr_ : ClassId) (fr_ : Nat → Int32) (na : Int32) (nb : Int32) (sz : Nat) (hOn : tz_OK 350 fn) : Met l yX12_about wsX12_about ({ frames := 2, cells := 0, slots := 0, locals := 46 }) (va_Pc [.ref mo, .int na, .int nb] (fun U => U.heap.size = sz ∧ va_P (dC, dI) vwCl [(mo, .inr (12, [.ref nw, .ref kp, .ref ik, .ref mr, .long la_, .long lb_, .ref mw, .long lc_, .int ti_, .int cb_, .long ld_, .long le_, .ref mq, .ref mz, .ref my, .int sm_, .ref mb, .int bl_, .int ta_, .int tl_, .int tk_, .int vl_, .ref mx, .ref mv])), (nw, .inl (cn_, 350, .inl fn)), (mr, .inl (cr_, 3, .inl fr_))] U.heap ∧ va_K (dC, dI) vwCl [(cn_, .int), (cr_, .int)] U ∧ va_D (fun _ => True) [(mo, .inr (12, [.ref nw, .ref kp, .ref ik, .ref mr, .long la_, .long lb_, .ref mw, .long lc_, .int ti_, .int cb_, .long ld_, .long le_, .ref mq, .ref mz, .ref my, .int sm_, .ref mb, .int bl_, .int ta_, .int tl_, .int tk_, .int vl_, .ref mx, .ref mv])), (nw, .inl (cn_, 350, .inl fn)), (mr, .inl (cr_, 3, .inl fr_))])) (va_Qi (fun (r : Int32) (_ : Unit) => True) (fun _ t => ∃ (gr_ : Nat → Int32), va_P (dC, dI) vwCl [(mo, .inr (12, [.ref nw, .ref kp, .ref ik, .ref mr, .long la_, .long lb_, .ref mw, .long lc_, .int ti_, .int cb_, .long ld_, .long le_, .ref mq, .ref mz, .ref my, .int sm_, .ref mb, .int bl_, .int ta_, .int tl_, .int tk_, .int vl_, .ref mx, .ref mv])), (nw, .inl (cn_, 350, .inl fn)), (mr, .inl (cr_, 3, .inl gr_))] t.heap ∧ va_K (dC, dI) vwCl [(cn_, .int), (cr_, .int)] t ∧ va_D (va_A [(mo, .inr (12, [.ref nw, .ref kp, .ref ik, .ref mr, .long la_, .long lb_, .ref mw, .long lc_, .int ti_, .int cb_, .long ld_, .long le_, .ref mq, .ref mz, .ref my, .int sm_, .ref mb, .int bl_, .int ta_, .int tl_, .int tk_, .int vl_, .ref mx, .ref mv])), (nw, .inl (cn_, 350, .inl fn)), (mr, .inl (cr_, 3, .inl fr_))] sz) [(mo, .inr (12, [.ref nw, .ref kp, .ref ik, .ref mr, .long la_, .long lb_, .ref mw, .long lc_, .int ti_, .int cb_, .long ld_, .long le_, .ref mq, .ref mz, .ref my, .int sm_, .ref mb, .int bl_, .int ta_, .int tl_, .int tk_, .int vl_, .ref mx, .ref mv])), (nw, .inl (cn_, 350, .inl fn)), (mr, .inl (cr_, 3, .inl gr_))]) (va_A [(mo, .inr (12, [.ref nw, .ref kp, .ref ik, .ref mr, .long la_, .long lb_, .ref mw, .long lc_, .int ti_, .int cb_, .long ld_, .long le_, .ref mq, .ref mz, .ref my, .int sm_, .ref mb, .int bl_, .int ta_, .int tl_, .int tk_, .int vl_, .ref mx, .ref mv])), (nw, .inl (cn_, 350, .inl fn)), (mr, .inl (cr_, 3, .inl fr_))] sz)) 0 0 (va_A [(mo, .inr (12, [.ref nw, .ref kp, .ref ik, .ref mr, .long la_, .long lb_, .ref mw, .long lc_, .int ti_, .int cb_, .long ld_, .long le_, .ref mq, .ref mz, .ref my, .int sm_, .ref mb, .int bl_, .int ta_, .int tl_, .int tk_, .int vl_, .ref mx, .ref mv])), (nw, .inl (cn_, 350, .inl fn)), (mr, .inl (cr_, 3, .inl fr_))] sz) := by
  refine Met.ofW (cc := cX12_about) (maxL := 5) (ret := (some .int)) (by decide) rfl ?_
  intro p e s m args below meth c s₁ B hml hv
  obtain ⟨rfl, hsz, hP, hK, hD0⟩ := hv
  have hx := B.exec
  have hb := B.bytes
  have hr := B.returns
  have hts := atoms_spec (ws := wsX12_about) B.pre
  have hown : s.vm.findClass RX12 = some m.cls := findClass_of_methodNamed B.named
  have hlocks := B.notSynchronized
  subst hsz
  have hD := hD0.self (sz := s.heap.size)
  generalize hAe : va_A [(mo, .inr (12, [.ref nw, .ref kp, .ref ik, .ref mr, .long la_, .long lb_, .ref mw, .long lc_, .int ti_, .int cb_, .long ld_, .long le_, .ref mq, .ref mz, .ref my, .int sm_, .ref mb, .int bl_, .int ta_, .int tl_, .int tk_, .int vl_, .ref mx, .ref mv])), (nw, .inl (cn_, 350, .inl fn)), (mr, .inl (cr_, 3, .inl fr_))] s.heap.size = A at hD ⊢
  have hA : ∀ q : Nat, s.heap.size ≤ q → A q := fun q h => by rw [← hAe]; exact Or.inr h
  have hS : va_S A s.heap s.heap [] := va_S.rf
  have hP : va_P (dC, dI) vwCl [(mo, .inr (12, [.ref nw, .ref kp, .ref ik, .ref mr, .long la_, .long lb_, .ref mw, .long lc_, .int ti_, .int cb_, .long ld_, .long le_, .ref mq, .ref mz, .ref my, .int sm_, .ref mb, .int bl_, .int ta_, .int tl_, .int tk_, .int vl_, .ref mx, .ref mv])), (nw, .inl (cn_, 350, .inl fn)), (mr, .inl (cr_, 3, .inl fr_))] s.heap := hP
  have hl := lv_entry ([.ref mo, .int na, .int nb]) (n := 5) (Nat.le_of_ble_eq_true rfl)
  rw [lg_entry_eq]
  generalize (lg_sl ([.ref mo, .int na, .int nb]) ++ List.replicate (5 - (lg_sl ([.ref mo, .int na, .int nb])).length) Slot.unset).toArray = ls at hl ⊢
  have hl : lv_has ls 5 [(0, .ref mo), (1, .int na), (2, .int nb)] := hl
  refine lv_aload_n hx hb dX12_about_0 rfl (lv_at hl 0 rfl) ?_
  refine lv_iload_n hx hb dX12_about_1 rfl (lv_at hl 1 rfl) ?_
  have hPc_1 := hP.sub (ws' := [(mo, .inr (12, [.ref nw, .ref kp, .ref ik, .ref mr, .long la_, .long lb_, .ref mw, .long lc_, .int ti_, .int cb_, .long ld_, .long le_, .ref mq, .ref mz, .ref my, .int sm_, .ref mb, .int bl_, .int ta_, .int tl_, .int tk_, .int vl_, .ref mx, .ref mv])), (nw, .inl (cn_, 350, .inl fn))]) [0, 1] rfl
  have hKc_2 := hK.sub (tys' := [(cn_, .int)]) [0] rfl
  refine vp_callSi (va_Run.run (va_runV (As := [.int na]) (rest := []) ⟨hx, hb, hml, hown, hts⟩ (m_isBundle l dC dI mo nw kp ik mr la_ lb_ mw lc_ ti_ cb_ ld_ le_ mq mz my sm_ mb bl_ ta_ tl_ tk_ vl_ mx mv cn_ fn na hOn) (cwV 1 hts gX12_about_X12_isBundle rfl rfl rfl (by decide +kernel) ⟨Nat.le_of_ble_eq_true rfl, Nat.le_of_ble_eq_true rfl⟩) ⟨fun a U g mk q => by obtain ⟨q0, qP, qK⟩ := q; exact ⟨q0, qP, va_K.moved (u := U) (U := U.calling g mk a) (Vm.Alike.refl U.vm) qK⟩, va_recv hK hP (ci := 12) (q0 := 0) rfl rfl, fun U hU hW => ⟨rfl, by rw [hU]; exact hPc_1, va_K.moved hW.alike hKc_2⟩⟩ rfl rfl hl.1 rfl (lv_room (Nat.le_of_ble_eq_true rfl)) dX12_about_2 ⟨Nat.le_of_ble_eq_true rfl, Nat.le_of_ble_eq_true rfl⟩)) (fun r_3 hw_4 => ?_)
  by_cases hc_5 : 0 ≤ na ∧ na < (fn 1)
  · obtain rfl : 1 = r_3 := (hw_4.trans (if_pos hc_5)).symm
    obtain ⟨j_7, hj_8, ej_9⟩ := hOn.nat (K := 1) (n := 5) (by omega) (show tz_b 1 = (0, 5) from by decide)
    obtain ⟨j_6, hj_10, rfl⟩ := tz_idx2 (J := j_7) hc_5 ej_9 (by omega)
    refine lv_if_eq (tgt := 20) hx hb dX12_about_5 (by decide) (fun c_11 => ?_) (fun c_11 => ?_)
    · exact absurd c_11 (by decide)
    · refine lv_iload_n hx hb dX12_about_8 rfl (lv_at hl 2 rfl) ?_
      refine lv_i2l (v := nb.toInt64) hx hb dX12_about_9 rfl ?_
      refine lv_lconst (v := 0) hx hb dX12_about_10 (by decide) ?_
      refine lv_ldc2 hx hb hown (hts (.constantLong RX12 146 (4)) (by decide +kernel)) dX12_about_11 ?_
      refine vp_callSi (va_Run.run (va_runS (As := [.long nb.toInt64, .long 0, .long 4]) (rest := []) ⟨hx, hb, hml, hown, hts⟩ (m_in l dC dI nb.toInt64 0 4) (va_cwS 3 hts gX12_about_X12_in rfl rfl rfl (by decide +kernel) ⟨Nat.le_of_ble_eq_true rfl, Nat.le_of_ble_eq_true rfl⟩) ⟨fun a U g mk q => ⟨q.1, trivial⟩, fun U hU hW => ⟨rfl, trivial⟩⟩ rfl rfl hl.1 rfl (lv_room (Nat.le_of_ble_eq_true rfl)) dX12_about_14 ⟨Nat.le_of_ble_eq_true rfl, Nat.le_of_ble_eq_true rfl⟩)) (fun r_12 hw_13 => ?_)
      by_cases hc_14 : 0 ≤ nb ∧ nb ≤ 4
      · obtain rfl : 1 = r_12 := (hw_13.trans (if_pos ((tz_in64 (by first | rfl | decide) rfl (by first | rfl | decide)).mpr hc_14))).symm
        obtain ⟨j_15, hj_16, hj_17, rfl⟩ := tz_pickL (l := 0) (n := 4) hc_14 (by decide) (by decide)
        refine lv_if_ne (tgt := 27) hx hb dX12_about_17 (by decide) (fun c_18 => ?_) (fun c_18 => ?_)
        · refine lv_iload_n hx hb dX12_about_27 rfl (lv_at hl 2 rfl) ?_
          refine lv_iconst (v := 4) hx hb dX12_about_28 (by decide) ?_
          refine lv_icmp_ge (tgt := 39) hx hb dX12_about_29 (by decide) (fun c_19 => ?_) (fun c_19 => ?_)
          · have hn_20 : 4 ≤ j_15 := (nI_leI (a := 4) (b := j_15) (by omega) (by omega)).mp c_19
            refine lv_iconst (v := 0) hx hb dX12_about_39 (by decide) ?_
            refine lv_istore_n (lv' := [(3, .int 0), (0, .ref mo), (1, .int (nI j_6)), (2, .int (nI j_15))]) hx hb dX12_about_40 rfl hl (by decide) rfl (fun ls hl => ?_)
            refine lv_iconst (v := 0) hx hb dX12_about_41 (by decide) ?_
            refine lv_istore (lv' := [(4, .int 0), (3, .int 0), (0, .ref mo), (1, .int (nI j_6)), (2, .int (nI j_15))]) hx hb dX12_about_42 hl (by decide) rfl (fun ls hl => ?_)
            refine tz_while (σ := Nat × Int32 × Array Slot) (fun x => W p l e _ s m _ below meth c _ _ _ _ _ (F0 m 44 x.2.2 [])) (fun x => x.1 ≤ 8 ∧ lv_has x.2.2 5 [(4, .int (nI x.1)), (3, .int x.2.1), (0, .ref mo), (1, .int (nI j_6)), (2, .int (nI j_15))]) (fun x => 8 - x.1) ?_ (0, 0, ls) ⟨by (try dsimp only); omega, hl⟩
            rintro ⟨k_21, v_37, ls⟩ ⟨hi_55_0, hl⟩ ih_56
            dsimp only at hi_55_0 hl ih_56 ⊢
            refine lv_iload hx hb dX12_about_44 (lv_at hl 0 rfl) ?_
            refine lv_aload_n hx hb dX12_about_46 rfl (lv_at hl 2 rfl) ?_
            refine va_get (D := (dC, dI)) (ci := 12) (v := .ref nw) (C := RX12) (T := TX12) (N := 24) hx hb hts iw_m_about_X12 hown hK hP 0 rfl rfl 0 (by decide) (hts (.fieldLink RX12 7 "ThriceCountedModel" "now" "[I") (by decide +kernel)) (fun _ h9 => h9) rfl dX12_about_47 ?_
            refine lv_iconst (v := 2) hx hb dX12_about_50 (by decide) ?_
            refine va_iald hx hb hK hP 1 0 rfl rfl (show ¬ ((2 : Int32) < 0 ∨ 350 ≤ (2 : Int32).toNatClampNeg) by decide) dX12_about_51 ?_
            obtain ⟨j_57, hj_58, ej_59⟩ := hOn.nat (K := 2) (n := 8) (by omega) (show tz_b 2 = (0, 8) from by decide)
            refine tz_i (nI j_57) ej_59 ?_
            refine lv_icmp_ge (tgt := 80) hx hb dX12_about_52 (by decide) (fun c_60 => ?_) (fun c_60 => ?_)
            · have hn_61 : j_57 ≤ k_21 := (nI_leI (a := j_57) (b := k_21) (by omega) (by omega)).mp c_60
              refine lv_iload_n hx hb dX12_about_80 rfl (lv_at hl 1 rfl) ?_
              have hP9 := hP.sub (ws' := [(mo, .inr (12, [.ref nw, .ref kp, .ref ik, .ref mr, .long la_, .long lb_, .ref mw, .long lc_, .int ti_, .int cb_, .long ld_, .long le_, .ref mq, .ref mz, .ref my, .int sm_, .ref mb, .int bl_, .int ta_, .int tl_, .int tk_, .int vl_, .ref mx, .ref mv])), (nw, .inl (cn_, 350, .inl fn)), (mr, .inl (cr_, 3, .inl fr_))]) [0, 1, 2] rfl
              have hD9 := hD.sub (ws' := [(mo, .inr (12, [.ref nw, .ref kp, .ref ik, .ref mr, .long la_, .long lb_, .ref mw, .long lc_, .int ti_, .int cb_, .long ld_, .long le_, .ref mq, .ref mz, .ref my, .int sm_, .ref mb, .int bl_, .int ta_, .int tl_, .int tk_, .int vl_, .ref mx, .ref mv])), (nw, .inl (cn_, 350, .inl fn)), (mr, .inl (cr_, 3, .inl fr_))]) [0, 1, 2] (by decide) rfl
              have hK9 := hK.sub (tys' := [(cn_, .int), (cr_, .int)]) [0, 1] rfl
              exact W.iret (v := v_37) hx hb hr (fun t ht hW => ⟨⟨v_37, (), rfl, trivial, fr_, by rw [ht]; exact hP9, va_K.moved hW.alike hK9, hD9⟩, hS.F ht⟩) hS.2.2 dX12_about_81
            · have hn_62 : ¬ j_57 ≤ k_21 := fun q => c_60 ((nI_leI (a := j_57) (b := k_21) (by omega) (by omega)).mpr q)
              refine lv_iload_n hx hb dX12_about_55 rfl (lv_at hl 1 rfl) ?_
              refine lv_aload_n hx hb dX12_about_56 rfl (lv_at hl 2 rfl) ?_
              refine lv_iload hx hb dX12_about_57 (lv_at hl 0 rfl) ?_
              refine lv_iconst (v := 0) hx hb dX12_about_59 (by decide) ?_
              have hPc_63 := hP.sub (ws' := [(mo, .inr (12, [.ref nw, .ref kp, .ref ik, .ref mr, .long la_, .long lb_, .ref mw, .long lc_, .int ti_, .int cb_, .long ld_, .long le_, .ref mq, .ref mz, .ref my, .int sm_, .ref mb, .int bl_, .int ta_, .int tl_, .int tk_, .int vl_, .ref mx, .ref mv])), (nw, .inl (cn_, 350, .inl fn))]) [0, 1] rfl
              have hKc_64 := hK.sub (tys' := [(cn_, .int)]) [0] rfl
              refine vp_callSi (va_Run.run (va_runV (As := [.int (nI k_21), .int 0]) (rest := [.int v_37]) ⟨hx, hb, hml, hown, hts⟩ (m_countHas0 l dC dI mo nw kp ik mr la_ lb_ mw lc_ ti_ cb_ ld_ le_ mq mz my sm_ mb bl_ ta_ tl_ tk_ vl_ mx mv cn_ fn k_21 hOn (by omega)) (cwV 2 hts gX12_about_X12_countHas rfl rfl rfl (by decide +kernel) ⟨Nat.le_of_ble_eq_true rfl, Nat.le_of_ble_eq_true rfl⟩) ⟨fun a U g mk q => by obtain ⟨q0, qP, qK⟩ := q; exact ⟨q0, qP, va_K.moved (u := U) (U := U.calling g mk a) (Vm.Alike.refl U.vm) qK⟩, va_recv hK hP (ci := 12) (q0 := 0) rfl rfl, fun U hU hW => ⟨rfl, by rw [hU]; exact hPc_63, va_K.moved hW.alike hKc_64⟩⟩ rfl rfl hl.1 rfl (lv_room (Nat.le_of_ble_eq_true rfl)) dX12_about_60 ⟨Nat.le_of_ble_eq_true rfl, Nat.le_of_ble_eq_true rfl⟩)) (fun r_65 hw_66 => ?_)
              obtain ⟨j_67, hj_68, rfl⟩ := hw_66
              refine lv_iload_n hx hb dX12_about_63 rfl (lv_at hl 3 rfl) ?_
              refine lv_icmp_ne (tgt := 71) hx hb dX12_about_64 (by decide) (fun c_69 => ?_) (fun c_69 => ?_)
              · have hn_70 : ¬ j_67 = j_6 := fun q => c_69 ((nI_eq (a := j_67) (b := j_6) (by omega) (by omega)).mpr q)
                refine lv_iconst (v := 0) hx hb dX12_about_71 (by decide) ?_
                refine lv_iadd hx hb dX12_about_72 ?_
                refine lv_topi (fun x_71 _ => ?_)
                refine lv_istore_n (lv' := [(3, .int x_71), (4, .int (nI k_21)), (0, .ref mo), (1, .int (nI j_6)), (2, .int (nI j_15))]) hx hb dX12_about_73 rfl hl (by decide) rfl (fun ls hl => ?_)
                refine lv_iinc (v := (nI (k_21 + 1))) (lv' := [(4, .int (nI (k_21 + 1))), (3, .int x_71), (0, .ref mo), (1, .int (nI j_6)), (2, .int (nI j_15))]) hx hb dX12_about_74 hl (k := 1) rfl (nI_add k_21 1) (by decide) rfl (fun ls hl => ?_)
                refine lv_goto (tgt := 44) hx hb dX12_about_77 (by decide) ?_
                exact ih_56 ((k_21 + 1), x_71, ls) ⟨by dsimp only; omega, lv_sub hl [0, 1, 2, 3, 4] rfl⟩ (by dsimp only; omega)
              · have hn_72 : j_67 = j_6 := (nI_eq (a := j_67) (b := j_6) (by omega) (by omega)).mp c_69
                refine lv_iconst (v := 1) hx hb dX12_about_67 (by decide) ?_
                refine lv_goto (tgt := 72) hx hb dX12_about_68 (by decide) ?_
                refine lv_iadd hx hb dX12_about_72 ?_
                refine lv_topi (fun x_73 _ => ?_)
                refine lv_istore_n (lv' := [(3, .int x_73), (4, .int (nI k_21)), (0, .ref mo), (1, .int (nI j_6)), (2, .int (nI j_15))]) hx hb dX12_about_73 rfl hl (by decide) rfl (fun ls hl => ?_)
                refine lv_iinc (v := (nI (k_21 + 1))) (lv' := [(4, .int (nI (k_21 + 1))), (3, .int x_73), (0, .ref mo), (1, .int (nI j_6)), (2, .int (nI j_15))]) hx hb dX12_about_74 hl (k := 1) rfl (nI_add k_21 1) (by decide) rfl (fun ls hl => ?_)
                refine lv_goto (tgt := 44) hx hb dX12_about_77 (by decide) ?_
                exact ih_56 ((k_21 + 1), x_73, ls) ⟨by dsimp only; omega, lv_sub hl [0, 1, 2, 3, 4] rfl⟩ (by dsimp only; omega)
          · have hn_74 : ¬ 4 ≤ j_15 := fun q => c_19 ((nI_leI (a := 4) (b := j_15) (by omega) (by omega)).mpr q)
            refine lv_aload_n hx hb dX12_about_32 rfl (lv_at hl 0 rfl) ?_
            refine lv_iload_n hx hb dX12_about_33 rfl (lv_at hl 1 rfl) ?_
            refine lv_iload_n hx hb dX12_about_34 rfl (lv_at hl 2 rfl) ?_
            have hPc_75 := hP.sub (ws' := [(mo, .inr (12, [.ref nw, .ref kp, .ref ik, .ref mr, .long la_, .long lb_, .ref mw, .long lc_, .int ti_, .int cb_, .long ld_, .long le_, .ref mq, .ref mz, .ref my, .int sm_, .ref mb, .int bl_, .int ta_, .int tl_, .int tk_, .int vl_, .ref mx, .ref mv])), (nw, .inl (cn_, 350, .inl fn))]) [0, 1] rfl
            have hKc_76 := hK.sub (tys' := [(cn_, .int)]) [0] rfl
            refine vp_callSi (va_Run.run (va_runV (As := [.int (nI j_6), .int (nI j_15)]) (rest := []) ⟨hx, hb, hml, hown, hts⟩ (m_bundleHasX l dC dI mo nw kp ik mr la_ lb_ mw lc_ ti_ cb_ ld_ le_ mq mz my sm_ mb bl_ ta_ tl_ tk_ vl_ mx mv cn_ fn j_6 j_15 hOn (by omega) (by omega)) (cwV 2 hts gX12_about_X12_bundleHas rfl rfl rfl (by decide +kernel) ⟨Nat.le_of_ble_eq_true rfl, Nat.le_of_ble_eq_true rfl⟩) ⟨fun a U g mk q => by obtain ⟨q0, qP, qK⟩ := q; exact ⟨q0, qP, va_K.moved (u := U) (U := U.calling g mk a) (Vm.Alike.refl U.vm) qK⟩, va_recv hK hP (ci := 12) (q0 := 0) rfl rfl, fun U hU hW => ⟨rfl, by rw [hU]; exact hPc_75, va_K.moved hW.alike hKc_76⟩⟩ rfl rfl hl.1 rfl (lv_room (Nat.le_of_ble_eq_true rfl)) dX12_about_35 ⟨Nat.le_of_ble_eq_true rfl, Nat.le_of_ble_eq_true rfl⟩)) (fun r_77 hw_78 => ?_)
            have hP9 := hP.sub (ws' := [(mo, .inr (12, [.ref nw, .ref kp, .ref ik, .ref mr, .long la_, .long lb_, .ref mw, .long lc_, .int ti_, .int cb_, .long ld_, .long le_, .ref mq, .ref mz, .ref my, .int sm_, .ref mb, .int bl_, .int ta_, .int tl_, .int tk_, .int vl_, .ref mx, .ref mv])), (nw, .inl (cn_, 350, .inl fn)), (mr, .inl (cr_, 3, .inl fr_))]) [0, 1, 2] rfl
            have hD9 := hD.sub (ws' := [(mo, .inr (12, [.ref nw, .ref kp, .ref ik, .ref mr, .long la_, .long lb_, .ref mw, .long lc_, .int ti_, .int cb_, .long ld_, .long le_, .ref mq, .ref mz, .ref my, .int sm_, .ref mb, .int bl_, .int ta_, .int tl_, .int tk_, .int vl_, .ref mx, .ref mv])), (nw, .inl (cn_, 350, .inl fn)), (mr, .inl (cr_, 3, .inl fr_))]) [0, 1, 2] (by decide) rfl
            have hK9 := hK.sub (tys' := [(cn_, .int), (cr_, .int)]) [0, 1] rfl
            exact W.iret (v := r_77) hx hb hr (fun t ht hW => ⟨⟨r_77, (), rfl, trivial, fr_, by rw [ht]; exact hP9, va_K.moved hW.alike hK9, hD9⟩, hS.F ht⟩) hS.2.2 dX12_about_38
        · exact absurd c_18 (by decide)
      · obtain rfl : 0 = r_12 := (hw_13.trans (if_neg (fun z => hc_14 ((tz_in64 (by first | rfl | decide) rfl (by first | rfl | decide)).mp z)))).symm
        refine lv_if_ne (tgt := 27) hx hb dX12_about_17 (by decide) (fun c_79 => ?_) (fun c_79 => ?_)
        · exact absurd c_79 (by decide)
        · refine lv_aload_n hx hb dX12_about_20 rfl (lv_at hl 0 rfl) ?_
          refine lv_bipush (v := (-10)) hx hb dX12_about_21 (by decide) ?_
          have hPc := hP.sub (ws' := [(mo, .inr (12, [.ref nw, .ref kp, .ref ik, .ref mr, .long la_, .long lb_, .ref mw, .long lc_, .int ti_, .int cb_, .long ld_, .long le_, .ref mq, .ref mz, .ref my, .int sm_, .ref mb, .int bl_, .int ta_, .int tl_, .int tk_, .int vl_, .ref mx, .ref mv])), (mr, .inl (cr_, 3, .inl fr_))]) [0, 2] rfl
          have hDc := hD.sub (ws' := [(mo, .inr (12, [.ref nw, .ref kp, .ref ik, .ref mr, .long la_, .long lb_, .ref mw, .long lc_, .int ti_, .int cb_, .long ld_, .long le_, .ref mq, .ref mz, .ref my, .int sm_, .ref mb, .int bl_, .int ta_, .int tl_, .int tk_, .int vl_, .ref mx, .ref mv])), (mr, .inl (cr_, 3, .inl fr_))]) [0, 2] (by decide) rfl
          have hKc := hK.sub (tys' := [(cr_, .int)]) [1] rfl
          have hFc := va_free (wc := [(mo, .inr (12, [.ref nw, .ref kp, .ref ik, .ref mr, .long la_, .long lb_, .ref mw, .long lc_, .int ti_, .int cb_, .long ld_, .long le_, .ref mq, .ref mz, .ref my, .int sm_, .ref mb, .int bl_, .int ta_, .int tl_, .int tk_, .int vl_, .ref mx, .ref mv])), (mr, .inl (cr_, 3, .inl fr_))]) hD hS hA [0, 2] rfl
          refine va_calli (va_runV (As := [.int (-10)]) (rest := []) ⟨hx, hb, hml, hown, hts⟩ (m_bad l dC dI mo nw kp ik mr la_ lb_ mw lc_ ti_ cb_ ld_ le_ mq mz my sm_ mb bl_ ta_ tl_ tk_ vl_ mx mv cr_ fr_ (-10) s.heap.size) (cwV 1 hts gX12_about_X12_bad rfl rfl rfl (by decide +kernel) ⟨Nat.le_of_ble_eq_true rfl, Nat.le_of_ble_eq_true rfl⟩) ⟨fun a U g mk q => by obtain ⟨q0, q1, qP, qK, qD⟩ := q; exact ⟨q0, q1, qP, va_K.moved (u := U) (U := U.calling g mk a) (Vm.Alike.refl U.vm) qK, qD⟩, va_recv hK hP (ci := 12) (q0 := 0) rfl rfl, fun U hU hW => ⟨rfl, by rw [hU], by rw [hU]; exact hPc, va_K.moved hW.alike hKc, hDc.weaken (fun _ _ _ _ => trivial)⟩⟩ rfl rfl hl.1 rfl (lv_room (Nat.le_of_ble_eq_true rfl)) dX12_about_23 ⟨Nat.le_of_ble_eq_true rfl, Nat.le_of_ble_eq_true rfl⟩) hS (fun q _ h => hFc q h) hFc (fun r_80 u_ t H1 locs ht hvm hw_81 hB hz1 hk1 hS => ?_)
          obtain ⟨gr__82, hP1, hK1, hD1⟩ := hB
          rw [ht] at hP1
          have hK1 := va_K.moved hvm.symm hK1
          obtain ⟨hP, hD⟩ := va_join (wr := [(nw, .inl (cn_, 350, .inl fn))]) (w1 := [(mo, .inr (12, [.ref nw, .ref kp, .ref ik, .ref mr, .long la_, .long lb_, .ref mw, .long lc_, .int ti_, .int cb_, .long ld_, .long le_, .ref mq, .ref mz, .ref my, .int sm_, .ref mb, .int bl_, .int ta_, .int tl_, .int tk_, .int vl_, .ref mx, .ref mv])), (mr, .inl (cr_, 3, .inl gr__82))]) hP hD [0, 2] [1] rfl rfl (by decide) (by decide) hk1 hFc hP1 hD1
          generalize H1 = H at hP hS ⊢
          have hP : va_P (dC, dI) vwCl [(nw, .inl (cn_, 350, .inl fn)), (mo, .inr (12, [.ref nw, .ref kp, .ref ik, .ref mr, .long la_, .long lb_, .ref mw, .long lc_, .int ti_, .int cb_, .long ld_, .long le_, .ref mq, .ref mz, .ref my, .int sm_, .ref mb, .int bl_, .int ta_, .int tl_, .int tk_, .int vl_, .ref mx, .ref mv])), (mr, .inl (cr_, 3, .inl gr__82))] H := hP
          have hD : va_D A [(nw, .inl (cn_, 350, .inl fn)), (mo, .inr (12, [.ref nw, .ref kp, .ref ik, .ref mr, .long la_, .long lb_, .ref mw, .long lc_, .int ti_, .int cb_, .long ld_, .long le_, .ref mq, .ref mz, .ref my, .int sm_, .ref mb, .int bl_, .int ta_, .int tl_, .int tk_, .int vl_, .ref mx, .ref mv])), (mr, .inl (cr_, 3, .inl gr__82))] := hD
          obtain rfl : (-10) = r_80 := hw_81.symm
          have hP9 := hP.sub (ws' := [(mo, .inr (12, [.ref nw, .ref kp, .ref ik, .ref mr, .long la_, .long lb_, .ref mw, .long lc_, .int ti_, .int cb_, .long ld_, .long le_, .ref mq, .ref mz, .ref my, .int sm_, .ref mb, .int bl_, .int ta_, .int tl_, .int tk_, .int vl_, .ref mx, .ref mv])), (nw, .inl (cn_, 350, .inl fn)), (mr, .inl (cr_, 3, .inl gr__82))]) [1, 0, 2] rfl
          have hD9 := hD.sub (ws' := [(mo, .inr (12, [.ref nw, .ref kp, .ref ik, .ref mr, .long la_, .long lb_, .ref mw, .long lc_, .int ti_, .int cb_, .long ld_, .long le_, .ref mq, .ref mz, .ref my, .int sm_, .ref mb, .int bl_, .int ta_, .int tl_, .int tk_, .int vl_, .ref mx, .ref mv])), (nw, .inl (cn_, 350, .inl fn)), (mr, .inl (cr_, 3, .inl gr__82))]) [1, 0, 2] (by decide) rfl
          have hK9 := hK.sub (tys' := [(cn_, .int), (cr_, .int)]) [0, 1] rfl
          exact W.iret (v := (-10)) hx hb hr (fun t ht hW => ⟨⟨(-10), (), rfl, trivial, gr__82, by rw [ht]; exact hP9, va_K.moved hW.alike hK9, hD9⟩, hS.F ht⟩) hS.2.2 dX12_about_26
  · obtain rfl : 0 = r_3 := (hw_4.trans (if_neg hc_5)).symm
    refine lv_if_eq (tgt := 20) hx hb dX12_about_5 (by decide) (fun c_83 => ?_) (fun c_83 => ?_)
    · refine lv_aload_n hx hb dX12_about_20 rfl (lv_at hl 0 rfl) ?_
      refine lv_bipush (v := (-10)) hx hb dX12_about_21 (by decide) ?_
      have hPc := hP.sub (ws' := [(mo, .inr (12, [.ref nw, .ref kp, .ref ik, .ref mr, .long la_, .long lb_, .ref mw, .long lc_, .int ti_, .int cb_, .long ld_, .long le_, .ref mq, .ref mz, .ref my, .int sm_, .ref mb, .int bl_, .int ta_, .int tl_, .int tk_, .int vl_, .ref mx, .ref mv])), (mr, .inl (cr_, 3, .inl fr_))]) [0, 2] rfl
      have hDc := hD.sub (ws' := [(mo, .inr (12, [.ref nw, .ref kp, .ref ik, .ref mr, .long la_, .long lb_, .ref mw, .long lc_, .int ti_, .int cb_, .long ld_, .long le_, .ref mq, .ref mz, .ref my, .int sm_, .ref mb, .int bl_, .int ta_, .int tl_, .int tk_, .int vl_, .ref mx, .ref mv])), (mr, .inl (cr_, 3, .inl fr_))]) [0, 2] (by decide) rfl
      have hKc := hK.sub (tys' := [(cr_, .int)]) [1] rfl
      have hFc := va_free (wc := [(mo, .inr (12, [.ref nw, .ref kp, .ref ik, .ref mr, .long la_, .long lb_, .ref mw, .long lc_, .int ti_, .int cb_, .long ld_, .long le_, .ref mq, .ref mz, .ref my, .int sm_, .ref mb, .int bl_, .int ta_, .int tl_, .int tk_, .int vl_, .ref mx, .ref mv])), (mr, .inl (cr_, 3, .inl fr_))]) hD hS hA [0, 2] rfl
      refine va_calli (va_runV (As := [.int (-10)]) (rest := []) ⟨hx, hb, hml, hown, hts⟩ (m_bad l dC dI mo nw kp ik mr la_ lb_ mw lc_ ti_ cb_ ld_ le_ mq mz my sm_ mb bl_ ta_ tl_ tk_ vl_ mx mv cr_ fr_ (-10) s.heap.size) (cwV 1 hts gX12_about_X12_bad rfl rfl rfl (by decide +kernel) ⟨Nat.le_of_ble_eq_true rfl, Nat.le_of_ble_eq_true rfl⟩) ⟨fun a U g mk q => by obtain ⟨q0, q1, qP, qK, qD⟩ := q; exact ⟨q0, q1, qP, va_K.moved (u := U) (U := U.calling g mk a) (Vm.Alike.refl U.vm) qK, qD⟩, va_recv hK hP (ci := 12) (q0 := 0) rfl rfl, fun U hU hW => ⟨rfl, by rw [hU], by rw [hU]; exact hPc, va_K.moved hW.alike hKc, hDc.weaken (fun _ _ _ _ => trivial)⟩⟩ rfl rfl hl.1 rfl (lv_room (Nat.le_of_ble_eq_true rfl)) dX12_about_23 ⟨Nat.le_of_ble_eq_true rfl, Nat.le_of_ble_eq_true rfl⟩) hS (fun q _ h => hFc q h) hFc (fun r_84 u_ t H1 locs ht hvm hw_85 hB hz1 hk1 hS => ?_)
      obtain ⟨gr__86, hP1, hK1, hD1⟩ := hB
      rw [ht] at hP1
      have hK1 := va_K.moved hvm.symm hK1
      obtain ⟨hP, hD⟩ := va_join (wr := [(nw, .inl (cn_, 350, .inl fn))]) (w1 := [(mo, .inr (12, [.ref nw, .ref kp, .ref ik, .ref mr, .long la_, .long lb_, .ref mw, .long lc_, .int ti_, .int cb_, .long ld_, .long le_, .ref mq, .ref mz, .ref my, .int sm_, .ref mb, .int bl_, .int ta_, .int tl_, .int tk_, .int vl_, .ref mx, .ref mv])), (mr, .inl (cr_, 3, .inl gr__86))]) hP hD [0, 2] [1] rfl rfl (by decide) (by decide) hk1 hFc hP1 hD1
      generalize H1 = H at hP hS ⊢
      have hP : va_P (dC, dI) vwCl [(nw, .inl (cn_, 350, .inl fn)), (mo, .inr (12, [.ref nw, .ref kp, .ref ik, .ref mr, .long la_, .long lb_, .ref mw, .long lc_, .int ti_, .int cb_, .long ld_, .long le_, .ref mq, .ref mz, .ref my, .int sm_, .ref mb, .int bl_, .int ta_, .int tl_, .int tk_, .int vl_, .ref mx, .ref mv])), (mr, .inl (cr_, 3, .inl gr__86))] H := hP
      have hD : va_D A [(nw, .inl (cn_, 350, .inl fn)), (mo, .inr (12, [.ref nw, .ref kp, .ref ik, .ref mr, .long la_, .long lb_, .ref mw, .long lc_, .int ti_, .int cb_, .long ld_, .long le_, .ref mq, .ref mz, .ref my, .int sm_, .ref mb, .int bl_, .int ta_, .int tl_, .int tk_, .int vl_, .ref mx, .ref mv])), (mr, .inl (cr_, 3, .inl gr__86))] := hD
      obtain rfl : (-10) = r_84 := hw_85.symm
      have hP9 := hP.sub (ws' := [(mo, .inr (12, [.ref nw, .ref kp, .ref ik, .ref mr, .long la_, .long lb_, .ref mw, .long lc_, .int ti_, .int cb_, .long ld_, .long le_, .ref mq, .ref mz, .ref my, .int sm_, .ref mb, .int bl_, .int ta_, .int tl_, .int tk_, .int vl_, .ref mx, .ref mv])), (nw, .inl (cn_, 350, .inl fn)), (mr, .inl (cr_, 3, .inl gr__86))]) [1, 0, 2] rfl
      have hD9 := hD.sub (ws' := [(mo, .inr (12, [.ref nw, .ref kp, .ref ik, .ref mr, .long la_, .long lb_, .ref mw, .long lc_, .int ti_, .int cb_, .long ld_, .long le_, .ref mq, .ref mz, .ref my, .int sm_, .ref mb, .int bl_, .int ta_, .int tl_, .int tk_, .int vl_, .ref mx, .ref mv])), (nw, .inl (cn_, 350, .inl fn)), (mr, .inl (cr_, 3, .inl gr__86))]) [1, 0, 2] (by decide) rfl
      have hK9 := hK.sub (tys' := [(cn_, .int), (cr_, .int)]) [0, 1] rfl
      exact W.iret (v := (-10)) hx hb hr (fun t ht hW => ⟨⟨(-10), (), rfl, trivial, gr__86, by rw [ht]; exact hP9, va_K.moved hW.alike hK9, hD9⟩, hS.F ht⟩) hS.2.2 dX12_about_26
    · exact absurd c_83 (by decide)
set_option maxRecDepth 20000 in
theorem ggX12_agreed_X12_isBundle : GoodIn wsX12_agreed wsX12_isBundle := goodIn_r _ [6, 1, 7, 8, 5, 9, 19, 20, 21, 22, 23, 24, 25, 26, 27, 28, 29, 30, 31, 32, 33, 34, 35, 36, 37, 38, 39, 40, 41, 42] (by decide +kernel) (by decide +kernel)
set_option maxRecDepth 20000 in
theorem gX12_agreed_X12_isBundle : GoodIn wsX12_agreed (wsV RX12 81 RX12 yX12_isBundle wsX12_isBundle) := goodIn_app (goodIn_of _ (by decide +kernel)) ggX12_agreed_X12_isBundle
set_option maxRecDepth 20000 in
theorem ggX12_agreed_X12_countHas : GoodIn wsX12_agreed wsX12_countHas := goodIn_r _ [18, 1, 19, 20, 21, 22, 23, 24, 25, 26, 27, 28, 29, 30, 31, 32, 33, 34, 35, 36, 37, 38, 39, 40, 41, 42] (by decide +kernel) (by decide +kernel)
set_option maxRecDepth 20000 in
theorem gX12_agreed_X12_countHas : GoodIn wsX12_agreed (wsV RX12 143 RX12 yX12_countHas wsX12_countHas) := goodIn_app (goodIn_of _ (by decide +kernel)) ggX12_agreed_X12_countHas
set_option maxRecDepth 20000 in
theorem ggX12_agreed_X12_bad : GoodIn wsX12_agreed wsX12_bad := goodIn_r _ [13, 14, 19, 20, 21, 22, 23, 24, 25, 26, 27, 28, 29, 30, 31, 32, 33, 34, 35, 36, 37, 38, 39, 40, 41, 42] (by decide +kernel) (by decide +kernel)
set_option maxRecDepth 20000 in
theorem gX12_agreed_X12_bad : GoodIn wsX12_agreed (wsV RX12 61 RX12 yX12_bad wsX12_bad) := goodIn_app (goodIn_of _ (by decide +kernel)) ggX12_agreed_X12_bad
theorem dX12_agreed_0 : decode cX12_agreed 0 = .ok (.aload_n 0, 1) := by decide +kernel
theorem dX12_agreed_1 : decode cX12_agreed 1 = .ok (.iload_n 1, 1) := by decide +kernel
theorem dX12_agreed_2 : decode cX12_agreed 2 = .ok (.invokevirtual 81, 3) := by decide +kernel
theorem dX12_agreed_5 : decode cX12_agreed 5 = .ok (.ifCond .ne 10, 3) := by decide +kernel
theorem dX12_agreed_15 : decode cX12_agreed 15 = .ok (.iconst (-1), 1) := by decide +kernel
theorem dX12_agreed_16 : decode cX12_agreed 16 = .ok (.istore_n 2, 1) := by decide +kernel
theorem dX12_agreed_17 : decode cX12_agreed 17 = .ok (.iconst 0, 1) := by decide +kernel
theorem dX12_agreed_18 : decode cX12_agreed 18 = .ok (.istore_n 3, 1) := by decide +kernel
theorem dX12_agreed_19 : decode cX12_agreed 19 = .ok (.iload_n 3, 1) := by decide +kernel
theorem dX12_agreed_20 : decode cX12_agreed 20 = .ok (.aload_n 0, 1) := by decide +kernel
theorem dX12_agreed_21 : decode cX12_agreed 21 = .ok (.getfield 7, 3) := by decide +kernel
theorem dX12_agreed_24 : decode cX12_agreed 24 = .ok (.iconst 2, 1) := by decide +kernel
theorem dX12_agreed_25 : decode cX12_agreed 25 = .ok (.iaload, 1) := by decide +kernel
theorem dX12_agreed_26 : decode cX12_agreed 26 = .ok (.if_icmp .ge 38, 3) := by decide +kernel
theorem dX12_agreed_29 : decode cX12_agreed 29 = .ok (.aload_n 0, 1) := by decide +kernel
theorem dX12_agreed_30 : decode cX12_agreed 30 = .ok (.iload_n 3, 1) := by decide +kernel
theorem dX12_agreed_31 : decode cX12_agreed 31 = .ok (.iconst 0, 1) := by decide +kernel
theorem dX12_agreed_32 : decode cX12_agreed 32 = .ok (.invokevirtual 143, 3) := by decide +kernel
theorem dX12_agreed_35 : decode cX12_agreed 35 = .ok (.iload_n 1, 1) := by decide +kernel
theorem dX12_agreed_36 : decode cX12_agreed 36 = .ok (.if_icmp .ne 22, 3) := by decide +kernel
theorem dX12_agreed_58 : decode cX12_agreed 58 = .ok (.iinc 3 1, 3) := by decide +kernel
theorem dX12_agreed_61 : decode cX12_agreed 61 = .ok (.goto (-42), 3) := by decide +kernel
theorem dX12_agreed_39 : decode cX12_agreed 39 = .ok (.aload_n 0, 1) := by decide +kernel
theorem dX12_agreed_40 : decode cX12_agreed 40 = .ok (.iload_n 3, 1) := by decide +kernel
theorem dX12_agreed_41 : decode cX12_agreed 41 = .ok (.iconst 3, 1) := by decide +kernel
theorem dX12_agreed_42 : decode cX12_agreed 42 = .ok (.invokevirtual 143, 3) := by decide +kernel
theorem dX12_agreed_45 : decode cX12_agreed 45 = .ok (.iload_n 2, 1) := by decide +kernel
theorem dX12_agreed_46 : decode cX12_agreed 46 = .ok (.if_icmp .ne 5, 3) := by decide +kernel
theorem dX12_agreed_51 : decode cX12_agreed 51 = .ok (.aload_n 0, 1) := by decide +kernel
theorem dX12_agreed_52 : decode cX12_agreed 52 = .ok (.iload_n 3, 1) := by decide +kernel
theorem dX12_agreed_53 : decode cX12_agreed 53 = .ok (.iconst 3, 1) := by decide +kernel
theorem dX12_agreed_54 : decode cX12_agreed 54 = .ok (.invokevirtual 143, 3) := by decide +kernel
theorem dX12_agreed_57 : decode cX12_agreed 57 = .ok (.istore_n 2, 1) := by decide +kernel
theorem dX12_agreed_49 : decode cX12_agreed 49 = .ok (.iload_n 2, 1) := by decide +kernel
theorem dX12_agreed_50 : decode cX12_agreed 50 = .ok (.ireturn, 1) := by decide +kernel
theorem dX12_agreed_64 : decode cX12_agreed 64 = .ok (.iconst (-1), 1) := by decide +kernel
theorem dX12_agreed_65 : decode cX12_agreed 65 = .ok (.ireturn, 1) := by decide +kernel
theorem dX12_agreed_8 : decode cX12_agreed 8 = .ok (.aload_n 0, 1) := by decide +kernel
theorem dX12_agreed_9 : decode cX12_agreed 9 = .ok (.bipush (-2), 2) := by decide +kernel
theorem dX12_agreed_11 : decode cX12_agreed 11 = .ok (.invokevirtual 61, 3) := by decide +kernel
theorem dX12_agreed_14 : decode cX12_agreed 14 = .ok (.ireturn, 1) := by decide +kernel
set_option maxRecDepth 20000 in
theorem iw_m_agreed_X12 : ∀ w ∈ wsX120, w ∈ wsX12_agreed := by decide +kernel
set_option maxHeartbeats 4000000 in
set_option maxRecDepth 100000 in
theorem m_agreed (l : Launch) (dC : Nat → ClassId) (dI : Nat → Nat → Nat) (mo : Nat) (nw : Nat) (kp : Nat) (ik : Nat) (mr : Nat) (la_ : Int64) (lb_ : Int64) (mw : Nat) (lc_ : Int64) (ti_ : Int32) (cb_ : Int32) (ld_ : Int64) (le_ : Int64) (mq : Nat) (mz : Nat) (my : Nat) (sm_ : Int32) (mb : Nat) (bl_ : Int32) (ta_ : Int32) (tl_ : Int32) (tk_ : Int32) (vl_ : Int32) (mx : Nat) (mv : Nat) (cn_ : ClassId) (fn : Nat → Int32) (cr_ : ClassId) (fr_ : Nat → Int32) (na : Int32) (sz : Nat) (hOn : tz_OK 350 fn) : Met l yX12_agreed wsX12_agreed ({ frames := 2, cells := 0, slots := 0, locals := 46 }) (va_Pc [.ref mo, .int na] (fun U => U.heap.size = sz ∧ va_P (dC, dI) vwCl [(mo, .inr (12, [.ref nw, .ref kp, .ref ik, .ref mr, .long la_, .long lb_, .ref mw, .long lc_, .int ti_, .int cb_, .long ld_, .long le_, .ref mq, .ref mz, .ref my, .int sm_, .ref mb, .int bl_, .int ta_, .int tl_, .int tk_, .int vl_, .ref mx, .ref mv])), (nw, .inl (cn_, 350, .inl fn)), (mr, .inl (cr_, 3, .inl fr_))] U.heap ∧ va_K (dC, dI) vwCl [(cn_, .int), (cr_, .int)] U ∧ va_D (fun _ => True) [(mo, .inr (12, [.ref nw, .ref kp, .ref ik, .ref mr, .long la_, .long lb_, .ref mw, .long lc_, .int ti_, .int cb_, .long ld_, .long le_, .ref mq, .ref mz, .ref my, .int sm_, .ref mb, .int bl_, .int ta_, .int tl_, .int tk_, .int vl_, .ref mx, .ref mv])), (nw, .inl (cn_, 350, .inl fn)), (mr, .inl (cr_, 3, .inl fr_))])) (va_Qi (fun (r : Int32) (_ : Unit) => True) (fun _ t => ∃ (gr_ : Nat → Int32), va_P (dC, dI) vwCl [(mo, .inr (12, [.ref nw, .ref kp, .ref ik, .ref mr, .long la_, .long lb_, .ref mw, .long lc_, .int ti_, .int cb_, .long ld_, .long le_, .ref mq, .ref mz, .ref my, .int sm_, .ref mb, .int bl_, .int ta_, .int tl_, .int tk_, .int vl_, .ref mx, .ref mv])), (nw, .inl (cn_, 350, .inl fn)), (mr, .inl (cr_, 3, .inl gr_))] t.heap ∧ va_K (dC, dI) vwCl [(cn_, .int), (cr_, .int)] t ∧ va_D (va_A [(mo, .inr (12, [.ref nw, .ref kp, .ref ik, .ref mr, .long la_, .long lb_, .ref mw, .long lc_, .int ti_, .int cb_, .long ld_, .long le_, .ref mq, .ref mz, .ref my, .int sm_, .ref mb, .int bl_, .int ta_, .int tl_, .int tk_, .int vl_, .ref mx, .ref mv])), (nw, .inl (cn_, 350, .inl fn)), (mr, .inl (cr_, 3, .inl fr_))] sz) [(mo, .inr (12, [.ref nw, .ref kp, .ref ik, .ref mr, .long la_, .long lb_, .ref mw, .long lc_, .int ti_, .int cb_, .long ld_, .long le_, .ref mq, .ref mz, .ref my, .int sm_, .ref mb, .int bl_, .int ta_, .int tl_, .int tk_, .int vl_, .ref mx, .ref mv])), (nw, .inl (cn_, 350, .inl fn)), (mr, .inl (cr_, 3, .inl gr_))]) (va_A [(mo, .inr (12, [.ref nw, .ref kp, .ref ik, .ref mr, .long la_, .long lb_, .ref mw, .long lc_, .int ti_, .int cb_, .long ld_, .long le_, .ref mq, .ref mz, .ref my, .int sm_, .ref mb, .int bl_, .int ta_, .int tl_, .int tk_, .int vl_, .ref mx, .ref mv])), (nw, .inl (cn_, 350, .inl fn)), (mr, .inl (cr_, 3, .inl fr_))] sz)) 0 0 (va_A [(mo, .inr (12, [.ref nw, .ref kp, .ref ik, .ref mr, .long la_, .long lb_, .ref mw, .long lc_, .int ti_, .int cb_, .long ld_, .long le_, .ref mq, .ref mz, .ref my, .int sm_, .ref mb, .int bl_, .int ta_, .int tl_, .int tk_, .int vl_, .ref mx, .ref mv])), (nw, .inl (cn_, 350, .inl fn)), (mr, .inl (cr_, 3, .inl fr_))] sz) := by
  refine Met.ofW (cc := cX12_agreed) (maxL := 4) (ret := (some .int)) (by decide) rfl ?_
  intro p e s m args below meth c s₁ B hml hv
  obtain ⟨rfl, hsz, hP, hK, hD0⟩ := hv
  have hx := B.exec
  have hb := B.bytes
  have hr := B.returns
  have hts := atoms_spec (ws := wsX12_agreed) B.pre
  have hown : s.vm.findClass RX12 = some m.cls := findClass_of_methodNamed B.named
  have hlocks := B.notSynchronized
  subst hsz
  have hD := hD0.self (sz := s.heap.size)
  generalize hAe : va_A [(mo, .inr (12, [.ref nw, .ref kp, .ref ik, .ref mr, .long la_, .long lb_, .ref mw, .long lc_, .int ti_, .int cb_, .long ld_, .long le_, .ref mq, .ref mz, .ref my, .int sm_, .ref mb, .int bl_, .int ta_, .int tl_, .int tk_, .int vl_, .ref mx, .ref mv])), (nw, .inl (cn_, 350, .inl fn)), (mr, .inl (cr_, 3, .inl fr_))] s.heap.size = A at hD ⊢
  have hA : ∀ q : Nat, s.heap.size ≤ q → A q := fun q h => by rw [← hAe]; exact Or.inr h
  have hS : va_S A s.heap s.heap [] := va_S.rf
  have hP : va_P (dC, dI) vwCl [(mo, .inr (12, [.ref nw, .ref kp, .ref ik, .ref mr, .long la_, .long lb_, .ref mw, .long lc_, .int ti_, .int cb_, .long ld_, .long le_, .ref mq, .ref mz, .ref my, .int sm_, .ref mb, .int bl_, .int ta_, .int tl_, .int tk_, .int vl_, .ref mx, .ref mv])), (nw, .inl (cn_, 350, .inl fn)), (mr, .inl (cr_, 3, .inl fr_))] s.heap := hP
  have hl := lv_entry ([.ref mo, .int na]) (n := 4) (Nat.le_of_ble_eq_true rfl)
  rw [lg_entry_eq]
  generalize (lg_sl ([.ref mo, .int na]) ++ List.replicate (4 - (lg_sl ([.ref mo, .int na])).length) Slot.unset).toArray = ls at hl ⊢
  have hl : lv_has ls 4 [(0, .ref mo), (1, .int na)] := hl
  refine lv_aload_n hx hb dX12_agreed_0 rfl (lv_at hl 0 rfl) ?_
  refine lv_iload_n hx hb dX12_agreed_1 rfl (lv_at hl 1 rfl) ?_
  have hPc_1 := hP.sub (ws' := [(mo, .inr (12, [.ref nw, .ref kp, .ref ik, .ref mr, .long la_, .long lb_, .ref mw, .long lc_, .int ti_, .int cb_, .long ld_, .long le_, .ref mq, .ref mz, .ref my, .int sm_, .ref mb, .int bl_, .int ta_, .int tl_, .int tk_, .int vl_, .ref mx, .ref mv])), (nw, .inl (cn_, 350, .inl fn))]) [0, 1] rfl
  have hKc_2 := hK.sub (tys' := [(cn_, .int)]) [0] rfl
  refine vp_callSi (va_Run.run (va_runV (As := [.int na]) (rest := []) ⟨hx, hb, hml, hown, hts⟩ (m_isBundle l dC dI mo nw kp ik mr la_ lb_ mw lc_ ti_ cb_ ld_ le_ mq mz my sm_ mb bl_ ta_ tl_ tk_ vl_ mx mv cn_ fn na hOn) (cwV 1 hts gX12_agreed_X12_isBundle rfl rfl rfl (by decide +kernel) ⟨Nat.le_of_ble_eq_true rfl, Nat.le_of_ble_eq_true rfl⟩) ⟨fun a U g mk q => by obtain ⟨q0, qP, qK⟩ := q; exact ⟨q0, qP, va_K.moved (u := U) (U := U.calling g mk a) (Vm.Alike.refl U.vm) qK⟩, va_recv hK hP (ci := 12) (q0 := 0) rfl rfl, fun U hU hW => ⟨rfl, by rw [hU]; exact hPc_1, va_K.moved hW.alike hKc_2⟩⟩ rfl rfl hl.1 rfl (lv_room (Nat.le_of_ble_eq_true rfl)) dX12_agreed_2 ⟨Nat.le_of_ble_eq_true rfl, Nat.le_of_ble_eq_true rfl⟩)) (fun r_3 hw_4 => ?_)
  by_cases hc_5 : 0 ≤ na ∧ na < (fn 1)
  · obtain rfl : 1 = r_3 := (hw_4.trans (if_pos hc_5)).symm
    obtain ⟨j_7, hj_8, ej_9⟩ := hOn.nat (K := 1) (n := 5) (by omega) (show tz_b 1 = (0, 5) from by decide)
    obtain ⟨j_6, hj_10, rfl⟩ := tz_idx2 (J := j_7) hc_5 ej_9 (by omega)
    refine lv_if_ne (tgt := 15) hx hb dX12_agreed_5 (by decide) (fun c_11 => ?_) (fun c_11 => ?_)
    · refine lv_iconst (v := (-1)) hx hb dX12_agreed_15 (by decide) ?_
      refine lv_istore_n (lv' := [(2, .int (-1)), (0, .ref mo), (1, .int (nI j_6))]) hx hb dX12_agreed_16 rfl hl (by decide) rfl (fun ls hl => ?_)
      refine lv_iconst (v := 0) hx hb dX12_agreed_17 (by decide) ?_
      refine lv_istore_n (lv' := [(3, .int 0), (2, .int (-1)), (0, .ref mo), (1, .int (nI j_6))]) hx hb dX12_agreed_18 rfl hl (by decide) rfl (fun ls hl => ?_)
      refine tz_while (σ := Nat × Int32 × Array Slot) (fun x => W p l e _ s m _ below meth c _ _ _ _ _ (F0 m 19 x.2.2 [])) (fun x => x.1 ≤ 8 ∧ lv_has x.2.2 4 [(3, .int (nI x.1)), (2, .int x.2.1), (0, .ref mo), (1, .int (nI j_6))]) (fun x => 8 - x.1) ?_ (0, (-1), ls) ⟨by (try dsimp only); omega, hl⟩
      rintro ⟨k_12, v_37, ls⟩ ⟨hi_62_0, hl⟩ ih_63
      dsimp only at hi_62_0 hl ih_63 ⊢
      refine lv_iload_n hx hb dX12_agreed_19 rfl (lv_at hl 0 rfl) ?_
      refine lv_aload_n hx hb dX12_agreed_20 rfl (lv_at hl 2 rfl) ?_
      refine va_get (D := (dC, dI)) (ci := 12) (v := .ref nw) (C := RX12) (T := TX12) (N := 24) hx hb hts iw_m_agreed_X12 hown hK hP 0 rfl rfl 0 (by decide) (hts (.fieldLink RX12 7 "ThriceCountedModel" "now" "[I") (by decide +kernel)) (fun _ h9 => h9) rfl dX12_agreed_21 ?_
      refine lv_iconst (v := 2) hx hb dX12_agreed_24 (by decide) ?_
      refine va_iald hx hb hK hP 1 0 rfl rfl (show ¬ ((2 : Int32) < 0 ∨ 350 ≤ (2 : Int32).toNatClampNeg) by decide) dX12_agreed_25 ?_
      obtain ⟨j_64, hj_65, ej_66⟩ := hOn.nat (K := 2) (n := 8) (by omega) (show tz_b 2 = (0, 8) from by decide)
      refine tz_i (nI j_64) ej_66 ?_
      refine lv_icmp_ge (tgt := 64) hx hb dX12_agreed_26 (by decide) (fun c_67 => ?_) (fun c_67 => ?_)
      · have hn_68 : j_64 ≤ k_12 := (nI_leI (a := j_64) (b := k_12) (by omega) (by omega)).mp c_67
        refine lv_iconst (v := (-1)) hx hb dX12_agreed_64 (by decide) ?_
        have hP9 := hP.sub (ws' := [(mo, .inr (12, [.ref nw, .ref kp, .ref ik, .ref mr, .long la_, .long lb_, .ref mw, .long lc_, .int ti_, .int cb_, .long ld_, .long le_, .ref mq, .ref mz, .ref my, .int sm_, .ref mb, .int bl_, .int ta_, .int tl_, .int tk_, .int vl_, .ref mx, .ref mv])), (nw, .inl (cn_, 350, .inl fn)), (mr, .inl (cr_, 3, .inl fr_))]) [0, 1, 2] rfl
        have hD9 := hD.sub (ws' := [(mo, .inr (12, [.ref nw, .ref kp, .ref ik, .ref mr, .long la_, .long lb_, .ref mw, .long lc_, .int ti_, .int cb_, .long ld_, .long le_, .ref mq, .ref mz, .ref my, .int sm_, .ref mb, .int bl_, .int ta_, .int tl_, .int tk_, .int vl_, .ref mx, .ref mv])), (nw, .inl (cn_, 350, .inl fn)), (mr, .inl (cr_, 3, .inl fr_))]) [0, 1, 2] (by decide) rfl
        have hK9 := hK.sub (tys' := [(cn_, .int), (cr_, .int)]) [0, 1] rfl
        exact W.iret (v := (-1)) hx hb hr (fun t ht hW => ⟨⟨(-1), (), rfl, trivial, fr_, by rw [ht]; exact hP9, va_K.moved hW.alike hK9, hD9⟩, hS.F ht⟩) hS.2.2 dX12_agreed_65
      · have hn_69 : ¬ j_64 ≤ k_12 := fun q => c_67 ((nI_leI (a := j_64) (b := k_12) (by omega) (by omega)).mpr q)
        refine lv_aload_n hx hb dX12_agreed_29 rfl (lv_at hl 2 rfl) ?_
        refine lv_iload_n hx hb dX12_agreed_30 rfl (lv_at hl 0 rfl) ?_
        refine lv_iconst (v := 0) hx hb dX12_agreed_31 (by decide) ?_
        have hPc_70 := hP.sub (ws' := [(mo, .inr (12, [.ref nw, .ref kp, .ref ik, .ref mr, .long la_, .long lb_, .ref mw, .long lc_, .int ti_, .int cb_, .long ld_, .long le_, .ref mq, .ref mz, .ref my, .int sm_, .ref mb, .int bl_, .int ta_, .int tl_, .int tk_, .int vl_, .ref mx, .ref mv])), (nw, .inl (cn_, 350, .inl fn))]) [0, 1] rfl
        have hKc_71 := hK.sub (tys' := [(cn_, .int)]) [0] rfl
        refine vp_callSi (va_Run.run (va_runV (As := [.int (nI k_12), .int 0]) (rest := []) ⟨hx, hb, hml, hown, hts⟩ (m_countHas0 l dC dI mo nw kp ik mr la_ lb_ mw lc_ ti_ cb_ ld_ le_ mq mz my sm_ mb bl_ ta_ tl_ tk_ vl_ mx mv cn_ fn k_12 hOn (by omega)) (cwV 2 hts gX12_agreed_X12_countHas rfl rfl rfl (by decide +kernel) ⟨Nat.le_of_ble_eq_true rfl, Nat.le_of_ble_eq_true rfl⟩) ⟨fun a U g mk q => by obtain ⟨q0, qP, qK⟩ := q; exact ⟨q0, qP, va_K.moved (u := U) (U := U.calling g mk a) (Vm.Alike.refl U.vm) qK⟩, va_recv hK hP (ci := 12) (q0 := 0) rfl rfl, fun U hU hW => ⟨rfl, by rw [hU]; exact hPc_70, va_K.moved hW.alike hKc_71⟩⟩ rfl rfl hl.1 rfl (lv_room (Nat.le_of_ble_eq_true rfl)) dX12_agreed_32 ⟨Nat.le_of_ble_eq_true rfl, Nat.le_of_ble_eq_true rfl⟩)) (fun r_72 hw_73 => ?_)
        obtain ⟨j_74, hj_75, rfl⟩ := hw_73
        refine lv_iload_n hx hb dX12_agreed_35 rfl (lv_at hl 3 rfl) ?_
        refine lv_icmp_ne (tgt := 58) hx hb dX12_agreed_36 (by decide) (fun c_76 => ?_) (fun c_76 => ?_)
        · have hn_77 : ¬ j_74 = j_6 := fun q => c_76 ((nI_eq (a := j_74) (b := j_6) (by omega) (by omega)).mpr q)
          refine lv_iinc (v := (nI (k_12 + 1))) (lv' := [(3, .int (nI (k_12 + 1))), (2, .int v_37), (0, .ref mo), (1, .int (nI j_6))]) hx hb dX12_agreed_58 hl (k := 0) rfl (nI_add k_12 1) (by decide) rfl (fun ls hl => ?_)
          refine lv_goto (tgt := 19) hx hb dX12_agreed_61 (by decide) ?_
          exact ih_63 ((k_12 + 1), v_37, ls) ⟨by dsimp only; omega, lv_sub hl [0, 1, 2, 3] rfl⟩ (by dsimp only; omega)
        · have hn_78 : j_74 = j_6 := (nI_eq (a := j_74) (b := j_6) (by omega) (by omega)).mp c_76
          refine lv_aload_n hx hb dX12_agreed_39 rfl (lv_at hl 2 rfl) ?_
          refine lv_iload_n hx hb dX12_agreed_40 rfl (lv_at hl 0 rfl) ?_
          refine lv_iconst (v := 3) hx hb dX12_agreed_41 (by decide) ?_
          have hPc_79 := hP.sub (ws' := [(mo, .inr (12, [.ref nw, .ref kp, .ref ik, .ref mr, .long la_, .long lb_, .ref mw, .long lc_, .int ti_, .int cb_, .long ld_, .long le_, .ref mq, .ref mz, .ref my, .int sm_, .ref mb, .int bl_, .int ta_, .int tl_, .int tk_, .int vl_, .ref mx, .ref mv])), (nw, .inl (cn_, 350, .inl fn))]) [0, 1] rfl
          have hKc_80 := hK.sub (tys' := [(cn_, .int)]) [0] rfl
          refine vp_callSi (va_Run.run (va_runV (As := [.int (nI k_12), .int 3]) (rest := []) ⟨hx, hb, hml, hown, hts⟩ (m_countHas3 l dC dI mo nw kp ik mr la_ lb_ mw lc_ ti_ cb_ ld_ le_ mq mz my sm_ mb bl_ ta_ tl_ tk_ vl_ mx mv cn_ fn k_12 hOn (by omega)) (cwV 2 hts gX12_agreed_X12_countHas rfl rfl rfl (by decide +kernel) ⟨Nat.le_of_ble_eq_true rfl, Nat.le_of_ble_eq_true rfl⟩) ⟨fun a U g mk q => by obtain ⟨q0, qP, qK⟩ := q; exact ⟨q0, qP, va_K.moved (u := U) (U := U.calling g mk a) (Vm.Alike.refl U.vm) qK⟩, va_recv hK hP (ci := 12) (q0 := 0) rfl rfl, fun U hU hW => ⟨rfl, by rw [hU]; exact hPc_79, va_K.moved hW.alike hKc_80⟩⟩ rfl rfl hl.1 rfl (lv_room (Nat.le_of_ble_eq_true rfl)) dX12_agreed_42 ⟨Nat.le_of_ble_eq_true rfl, Nat.le_of_ble_eq_true rfl⟩)) (fun r_81 hw_82 => ?_)
          refine lv_iload_n hx hb dX12_agreed_45 rfl (lv_at hl 1 rfl) ?_
          refine lv_icmp_ne (tgt := 51) hx hb dX12_agreed_46 (by decide) (fun c_83 => ?_) (fun c_83 => ?_)
          · refine lv_aload_n hx hb dX12_agreed_51 rfl (lv_at hl 2 rfl) ?_
            refine lv_iload_n hx hb dX12_agreed_52 rfl (lv_at hl 0 rfl) ?_
            refine lv_iconst (v := 3) hx hb dX12_agreed_53 (by decide) ?_
            have hPc_84 := hP.sub (ws' := [(mo, .inr (12, [.ref nw, .ref kp, .ref ik, .ref mr, .long la_, .long lb_, .ref mw, .long lc_, .int ti_, .int cb_, .long ld_, .long le_, .ref mq, .ref mz, .ref my, .int sm_, .ref mb, .int bl_, .int ta_, .int tl_, .int tk_, .int vl_, .ref mx, .ref mv])), (nw, .inl (cn_, 350, .inl fn))]) [0, 1] rfl
            have hKc_85 := hK.sub (tys' := [(cn_, .int)]) [0] rfl
            refine vp_callSi (va_Run.run (va_runV (As := [.int (nI k_12), .int 3]) (rest := []) ⟨hx, hb, hml, hown, hts⟩ (m_countHas3 l dC dI mo nw kp ik mr la_ lb_ mw lc_ ti_ cb_ ld_ le_ mq mz my sm_ mb bl_ ta_ tl_ tk_ vl_ mx mv cn_ fn k_12 hOn (by omega)) (cwV 2 hts gX12_agreed_X12_countHas rfl rfl rfl (by decide +kernel) ⟨Nat.le_of_ble_eq_true rfl, Nat.le_of_ble_eq_true rfl⟩) ⟨fun a U g mk q => by obtain ⟨q0, qP, qK⟩ := q; exact ⟨q0, qP, va_K.moved (u := U) (U := U.calling g mk a) (Vm.Alike.refl U.vm) qK⟩, va_recv hK hP (ci := 12) (q0 := 0) rfl rfl, fun U hU hW => ⟨rfl, by rw [hU]; exact hPc_84, va_K.moved hW.alike hKc_85⟩⟩ rfl rfl hl.1 rfl (lv_room (Nat.le_of_ble_eq_true rfl)) dX12_agreed_54 ⟨Nat.le_of_ble_eq_true rfl, Nat.le_of_ble_eq_true rfl⟩)) (fun r_86 hw_87 => ?_)
            refine lv_istore_n (lv' := [(2, .int r_86), (3, .int (nI k_12)), (0, .ref mo), (1, .int (nI j_6))]) hx hb dX12_agreed_57 rfl hl (by decide) rfl (fun ls hl => ?_)
            refine lv_iinc (v := (nI (k_12 + 1))) (lv' := [(3, .int (nI (k_12 + 1))), (2, .int r_86), (0, .ref mo), (1, .int (nI j_6))]) hx hb dX12_agreed_58 hl (k := 1) rfl (nI_add k_12 1) (by decide) rfl (fun ls hl => ?_)
            refine lv_goto (tgt := 19) hx hb dX12_agreed_61 (by decide) ?_
            exact ih_63 ((k_12 + 1), r_86, ls) ⟨by dsimp only; omega, lv_sub hl [0, 1, 2, 3] rfl⟩ (by dsimp only; omega)
          · refine lv_iload_n hx hb dX12_agreed_49 rfl (lv_at hl 1 rfl) ?_
            have hP9 := hP.sub (ws' := [(mo, .inr (12, [.ref nw, .ref kp, .ref ik, .ref mr, .long la_, .long lb_, .ref mw, .long lc_, .int ti_, .int cb_, .long ld_, .long le_, .ref mq, .ref mz, .ref my, .int sm_, .ref mb, .int bl_, .int ta_, .int tl_, .int tk_, .int vl_, .ref mx, .ref mv])), (nw, .inl (cn_, 350, .inl fn)), (mr, .inl (cr_, 3, .inl fr_))]) [0, 1, 2] rfl
            have hD9 := hD.sub (ws' := [(mo, .inr (12, [.ref nw, .ref kp, .ref ik, .ref mr, .long la_, .long lb_, .ref mw, .long lc_, .int ti_, .int cb_, .long ld_, .long le_, .ref mq, .ref mz, .ref my, .int sm_, .ref mb, .int bl_, .int ta_, .int tl_, .int tk_, .int vl_, .ref mx, .ref mv])), (nw, .inl (cn_, 350, .inl fn)), (mr, .inl (cr_, 3, .inl fr_))]) [0, 1, 2] (by decide) rfl
            have hK9 := hK.sub (tys' := [(cn_, .int), (cr_, .int)]) [0, 1] rfl
            exact W.iret (v := v_37) hx hb hr (fun t ht hW => ⟨⟨v_37, (), rfl, trivial, fr_, by rw [ht]; exact hP9, va_K.moved hW.alike hK9, hD9⟩, hS.F ht⟩) hS.2.2 dX12_agreed_50
    · exact absurd c_11 (by decide)
  · obtain rfl : 0 = r_3 := (hw_4.trans (if_neg hc_5)).symm
    refine lv_if_ne (tgt := 15) hx hb dX12_agreed_5 (by decide) (fun c_88 => ?_) (fun c_88 => ?_)
    · exact absurd c_88 (by decide)
    · refine lv_aload_n hx hb dX12_agreed_8 rfl (lv_at hl 0 rfl) ?_
      refine lv_bipush (v := (-2)) hx hb dX12_agreed_9 (by decide) ?_
      have hPc := hP.sub (ws' := [(mo, .inr (12, [.ref nw, .ref kp, .ref ik, .ref mr, .long la_, .long lb_, .ref mw, .long lc_, .int ti_, .int cb_, .long ld_, .long le_, .ref mq, .ref mz, .ref my, .int sm_, .ref mb, .int bl_, .int ta_, .int tl_, .int tk_, .int vl_, .ref mx, .ref mv])), (mr, .inl (cr_, 3, .inl fr_))]) [0, 2] rfl
      have hDc := hD.sub (ws' := [(mo, .inr (12, [.ref nw, .ref kp, .ref ik, .ref mr, .long la_, .long lb_, .ref mw, .long lc_, .int ti_, .int cb_, .long ld_, .long le_, .ref mq, .ref mz, .ref my, .int sm_, .ref mb, .int bl_, .int ta_, .int tl_, .int tk_, .int vl_, .ref mx, .ref mv])), (mr, .inl (cr_, 3, .inl fr_))]) [0, 2] (by decide) rfl
      have hKc := hK.sub (tys' := [(cr_, .int)]) [1] rfl
      have hFc := va_free (wc := [(mo, .inr (12, [.ref nw, .ref kp, .ref ik, .ref mr, .long la_, .long lb_, .ref mw, .long lc_, .int ti_, .int cb_, .long ld_, .long le_, .ref mq, .ref mz, .ref my, .int sm_, .ref mb, .int bl_, .int ta_, .int tl_, .int tk_, .int vl_, .ref mx, .ref mv])), (mr, .inl (cr_, 3, .inl fr_))]) hD hS hA [0, 2] rfl
      refine va_calli (va_runV (As := [.int (-2)]) (rest := []) ⟨hx, hb, hml, hown, hts⟩ (m_bad l dC dI mo nw kp ik mr la_ lb_ mw lc_ ti_ cb_ ld_ le_ mq mz my sm_ mb bl_ ta_ tl_ tk_ vl_ mx mv cr_ fr_ (-2) s.heap.size) (cwV 1 hts gX12_agreed_X12_bad rfl rfl rfl (by decide +kernel) ⟨Nat.le_of_ble_eq_true rfl, Nat.le_of_ble_eq_true rfl⟩) ⟨fun a U g mk q => by obtain ⟨q0, q1, qP, qK, qD⟩ := q; exact ⟨q0, q1, qP, va_K.moved (u := U) (U := U.calling g mk a) (Vm.Alike.refl U.vm) qK, qD⟩, va_recv hK hP (ci := 12) (q0 := 0) rfl rfl, fun U hU hW => ⟨rfl, by rw [hU], by rw [hU]; exact hPc, va_K.moved hW.alike hKc, hDc.weaken (fun _ _ _ _ => trivial)⟩⟩ rfl rfl hl.1 rfl (lv_room (Nat.le_of_ble_eq_true rfl)) dX12_agreed_11 ⟨Nat.le_of_ble_eq_true rfl, Nat.le_of_ble_eq_true rfl⟩) hS (fun q _ h => hFc q h) hFc (fun r_89 u_ t H1 locs ht hvm hw_90 hB hz1 hk1 hS => ?_)
      obtain ⟨gr__91, hP1, hK1, hD1⟩ := hB
      rw [ht] at hP1
      have hK1 := va_K.moved hvm.symm hK1
      obtain ⟨hP, hD⟩ := va_join (wr := [(nw, .inl (cn_, 350, .inl fn))]) (w1 := [(mo, .inr (12, [.ref nw, .ref kp, .ref ik, .ref mr, .long la_, .long lb_, .ref mw, .long lc_, .int ti_, .int cb_, .long ld_, .long le_, .ref mq, .ref mz, .ref my, .int sm_, .ref mb, .int bl_, .int ta_, .int tl_, .int tk_, .int vl_, .ref mx, .ref mv])), (mr, .inl (cr_, 3, .inl gr__91))]) hP hD [0, 2] [1] rfl rfl (by decide) (by decide) hk1 hFc hP1 hD1
      generalize H1 = H at hP hS ⊢
      have hP : va_P (dC, dI) vwCl [(nw, .inl (cn_, 350, .inl fn)), (mo, .inr (12, [.ref nw, .ref kp, .ref ik, .ref mr, .long la_, .long lb_, .ref mw, .long lc_, .int ti_, .int cb_, .long ld_, .long le_, .ref mq, .ref mz, .ref my, .int sm_, .ref mb, .int bl_, .int ta_, .int tl_, .int tk_, .int vl_, .ref mx, .ref mv])), (mr, .inl (cr_, 3, .inl gr__91))] H := hP
      have hD : va_D A [(nw, .inl (cn_, 350, .inl fn)), (mo, .inr (12, [.ref nw, .ref kp, .ref ik, .ref mr, .long la_, .long lb_, .ref mw, .long lc_, .int ti_, .int cb_, .long ld_, .long le_, .ref mq, .ref mz, .ref my, .int sm_, .ref mb, .int bl_, .int ta_, .int tl_, .int tk_, .int vl_, .ref mx, .ref mv])), (mr, .inl (cr_, 3, .inl gr__91))] := hD
      obtain rfl : (-2) = r_89 := hw_90.symm
      have hP9 := hP.sub (ws' := [(mo, .inr (12, [.ref nw, .ref kp, .ref ik, .ref mr, .long la_, .long lb_, .ref mw, .long lc_, .int ti_, .int cb_, .long ld_, .long le_, .ref mq, .ref mz, .ref my, .int sm_, .ref mb, .int bl_, .int ta_, .int tl_, .int tk_, .int vl_, .ref mx, .ref mv])), (nw, .inl (cn_, 350, .inl fn)), (mr, .inl (cr_, 3, .inl gr__91))]) [1, 0, 2] rfl
      have hD9 := hD.sub (ws' := [(mo, .inr (12, [.ref nw, .ref kp, .ref ik, .ref mr, .long la_, .long lb_, .ref mw, .long lc_, .int ti_, .int cb_, .long ld_, .long le_, .ref mq, .ref mz, .ref my, .int sm_, .ref mb, .int bl_, .int ta_, .int tl_, .int tk_, .int vl_, .ref mx, .ref mv])), (nw, .inl (cn_, 350, .inl fn)), (mr, .inl (cr_, 3, .inl gr__91))]) [1, 0, 2] (by decide) rfl
      have hK9 := hK.sub (tys' := [(cn_, .int), (cr_, .int)]) [0, 1] rfl
      exact W.iret (v := (-2)) hx hb hr (fun t ht hW => ⟨⟨(-2), (), rfl, trivial, gr__91, by rw [ht]; exact hP9, va_K.moved hW.alike hK9, hD9⟩, hS.F ht⟩) hS.2.2 dX12_agreed_14
set_option maxRecDepth 20000 in
theorem ggX12_why_X12_isOff : GoodIn wsX12_why wsX12_isOff := goodIn_r _ [5, 6, 7, 8, 9, 4, 10] (by decide +kernel) (by decide +kernel)
set_option maxRecDepth 20000 in
theorem gX12_why_X12_isOff : GoodIn wsX12_why (va_wsS RX12 212 yX12_isOff wsX12_isOff) := goodIn_app (goodIn_of _ (by decide +kernel)) ggX12_why_X12_isOff
set_option maxRecDepth 20000 in
theorem ggX12_why_X12_in : GoodIn wsX12_why wsX12_in := goodIn_r _ [10] (by decide +kernel) (by decide +kernel)
set_option maxRecDepth 20000 in
theorem gX12_why_X12_in : GoodIn wsX12_why (va_wsS RX12 49 yX12_in wsX12_in) := goodIn_app (goodIn_of _ (by decide +kernel)) ggX12_why_X12_in
set_option maxRecDepth 20000 in
theorem ggX12_why_X12_causeHas : GoodIn wsX12_why wsX12_causeHas := goodIn_r _ [19, 1, 20, 21, 22, 23, 24, 25, 26, 27, 28, 29, 30, 31, 32, 33, 34, 35, 36, 37, 38, 39, 40, 41, 42, 43] (by decide +kernel) (by decide +kernel)
set_option maxRecDepth 20000 in
theorem gX12_why_X12_causeHas : GoodIn wsX12_why (wsV RX12 215 RX12 yX12_causeHas wsX12_causeHas) := goodIn_app (goodIn_of _ (by decide +kernel)) ggX12_why_X12_causeHas
set_option maxRecDepth 20000 in
theorem ggX12_why_X12_bad : GoodIn wsX12_why wsX12_bad := goodIn_r _ [14, 15, 20, 21, 22, 23, 24, 25, 26, 27, 28, 29, 30, 31, 32, 33, 34, 35, 36, 37, 38, 39, 40, 41, 42, 43] (by decide +kernel) (by decide +kernel)
set_option maxRecDepth 20000 in
theorem gX12_why_X12_bad : GoodIn wsX12_why (wsV RX12 61 RX12 yX12_bad wsX12_bad) := goodIn_app (goodIn_of _ (by decide +kernel)) ggX12_why_X12_bad
theorem dX12_why_0 : decode cX12_why 0 = .ok (.iload_n 1, 1) := by decide +kernel
theorem dX12_why_1 : decode cX12_why 1 = .ok (.invokestatic 212, 3) := by decide +kernel
theorem dX12_why_4 : decode cX12_why 4 = .ok (.ifCond .eq 13, 3) := by decide +kernel
theorem dX12_why_7 : decode cX12_why 7 = .ok (.iload_n 2, 1) := by decide +kernel
theorem dX12_why_8 : decode cX12_why 8 = .ok (.i2l, 1) := by decide +kernel
theorem dX12_why_9 : decode cX12_why 9 = .ok (.lconst 0, 1) := by decide +kernel
theorem dX12_why_10 : decode cX12_why 10 = .ok (.lconst 1, 1) := by decide +kernel
theorem dX12_why_11 : decode cX12_why 11 = .ok (.invokestatic 49, 3) := by decide +kernel
theorem dX12_why_14 : decode cX12_why 14 = .ok (.ifCond .ne 10, 3) := by decide +kernel
theorem dX12_why_24 : decode cX12_why 24 = .ok (.iconst 0, 1) := by decide +kernel
theorem dX12_why_25 : decode cX12_why 25 = .ok (.istore_n 3, 1) := by decide +kernel
theorem dX12_why_26 : decode cX12_why 26 = .ok (.iconst (-1), 1) := by decide +kernel
theorem dX12_why_27 : decode cX12_why 27 = .ok (.istore 4, 2) := by decide +kernel
theorem dX12_why_29 : decode cX12_why 29 = .ok (.iconst (-1), 1) := by decide +kernel
theorem dX12_why_30 : decode cX12_why 30 = .ok (.istore 5, 2) := by decide +kernel
theorem dX12_why_32 : decode cX12_why 32 = .ok (.iconst 0, 1) := by decide +kernel
theorem dX12_why_33 : decode cX12_why 33 = .ok (.istore 6, 2) := by decide +kernel
theorem dX12_why_35 : decode cX12_why 35 = .ok (.iload 6, 2) := by decide +kernel
theorem dX12_why_37 : decode cX12_why 37 = .ok (.aload_n 0, 1) := by decide +kernel
theorem dX12_why_38 : decode cX12_why 38 = .ok (.getfield 7, 3) := by decide +kernel
theorem dX12_why_41 : decode cX12_why 41 = .ok (.iconst 3, 1) := by decide +kernel
theorem dX12_why_42 : decode cX12_why 42 = .ok (.iaload, 1) := by decide +kernel
theorem dX12_why_43 : decode cX12_why 43 = .ok (.if_icmp .ge 148, 3) := by decide +kernel
theorem dX12_why_46 : decode cX12_why 46 = .ok (.iload 6, 2) := by decide +kernel
theorem dX12_why_48 : decode cX12_why 48 = .ok (.istore 7, 2) := by decide +kernel
theorem dX12_why_50 : decode cX12_why 50 = .ok (.iload 7, 2) := by decide +kernel
theorem dX12_why_52 : decode cX12_why 52 = .ok (.aload_n 0, 1) := by decide +kernel
theorem dX12_why_53 : decode cX12_why 53 = .ok (.getfield 7, 3) := by decide +kernel
theorem dX12_why_56 : decode cX12_why 56 = .ok (.iconst 3, 1) := by decide +kernel
theorem dX12_why_57 : decode cX12_why 57 = .ok (.iaload, 1) := by decide +kernel
theorem dX12_why_58 : decode cX12_why 58 = .ok (.if_icmp .ge 127, 3) := by decide +kernel
theorem dX12_why_61 : decode cX12_why 61 = .ok (.iload 6, 2) := by decide +kernel
theorem dX12_why_63 : decode cX12_why 63 = .ok (.iload 7, 2) := by decide +kernel
theorem dX12_why_65 : decode cX12_why 65 = .ok (.if_icmp .ne 7, 3) := by decide +kernel
theorem dX12_why_72 : decode cX12_why 72 = .ok (.iconst 0, 1) := by decide +kernel
theorem dX12_why_73 : decode cX12_why 73 = .ok (.istore 8, 2) := by decide +kernel
theorem dX12_why_75 : decode cX12_why 75 = .ok (.aload_n 0, 1) := by decide +kernel
theorem dX12_why_76 : decode cX12_why 76 = .ok (.iload 6, 2) := by decide +kernel
theorem dX12_why_78 : decode cX12_why 78 = .ok (.iconst 0, 1) := by decide +kernel
theorem dX12_why_79 : decode cX12_why 79 = .ok (.invokevirtual 215, 3) := by decide +kernel
theorem dX12_why_82 : decode cX12_why 82 = .ok (.iload 8, 2) := by decide +kernel
theorem dX12_why_84 : decode cX12_why 84 = .ok (.ifCond .eq 7, 3) := by decide +kernel
theorem dX12_why_91 : decode cX12_why 91 = .ok (.aload_n 0, 1) := by decide +kernel
theorem dX12_why_92 : decode cX12_why 92 = .ok (.iload 7, 2) := by decide +kernel
theorem dX12_why_94 : decode cX12_why 94 = .ok (.iconst 0, 1) := by decide +kernel
theorem dX12_why_95 : decode cX12_why 95 = .ok (.invokevirtual 215, 3) := by decide +kernel
theorem dX12_why_98 : decode cX12_why 98 = .ok (.iadd, 1) := by decide +kernel
theorem dX12_why_99 : decode cX12_why 99 = .ok (.iload_n 1, 1) := by decide +kernel
theorem dX12_why_100 : decode cX12_why 100 = .ok (.if_icmp .ne 79, 3) := by decide +kernel
theorem dX12_why_179 : decode cX12_why 179 = .ok (.iinc 7 1, 3) := by decide +kernel
theorem dX12_why_182 : decode cX12_why 182 = .ok (.goto (-132), 3) := by decide +kernel
theorem dX12_why_103 : decode cX12_why 103 = .ok (.iload 8, 2) := by decide +kernel
theorem dX12_why_105 : decode cX12_why 105 = .ok (.ifCond .eq 13, 3) := by decide +kernel
theorem dX12_why_118 : decode cX12_why 118 = .ok (.aload_n 0, 1) := by decide +kernel
theorem dX12_why_119 : decode cX12_why 119 = .ok (.iload 6, 2) := by decide +kernel
theorem dX12_why_121 : decode cX12_why 121 = .ok (.iconst 1, 1) := by decide +kernel
theorem dX12_why_122 : decode cX12_why 122 = .ok (.invokevirtual 215, 3) := by decide +kernel
theorem dX12_why_125 : decode cX12_why 125 = .ok (.aload_n 0, 1) := by decide +kernel
theorem dX12_why_126 : decode cX12_why 126 = .ok (.iload 7, 2) := by decide +kernel
theorem dX12_why_128 : decode cX12_why 128 = .ok (.iconst 1, 1) := by decide +kernel
theorem dX12_why_129 : decode cX12_why 129 = .ok (.invokevirtual 215, 3) := by decide +kernel
theorem dX12_why_132 : decode cX12_why 132 = .ok (.imul, 1) := by decide +kernel
theorem dX12_why_133 : decode cX12_why 133 = .ok (.bipush 20, 2) := by decide +kernel
theorem dX12_why_135 : decode cX12_why 135 = .ok (.idiv, 1) := by decide +kernel
theorem dX12_why_136 : decode cX12_why 136 = .ok (.istore 9, 2) := by decide +kernel
theorem dX12_why_138 : decode cX12_why 138 = .ok (.iinc 3 1, 3) := by decide +kernel
theorem dX12_why_141 : decode cX12_why 141 = .ok (.iload 9, 2) := by decide +kernel
theorem dX12_why_143 : decode cX12_why 143 = .ok (.iload 5, 2) := by decide +kernel
theorem dX12_why_145 : decode cX12_why 145 = .ok (.if_icmp .le 14, 3) := by decide +kernel
theorem dX12_why_159 : decode cX12_why 159 = .ok (.iload 4, 2) := by decide +kernel
theorem dX12_why_161 : decode cX12_why 161 = .ok (.istore 4, 2) := by decide +kernel
theorem dX12_why_163 : decode cX12_why 163 = .ok (.iload 9, 2) := by decide +kernel
theorem dX12_why_165 : decode cX12_why 165 = .ok (.iload 5, 2) := by decide +kernel
theorem dX12_why_167 : decode cX12_why 167 = .ok (.if_icmp .le 8, 3) := by decide +kernel
theorem dX12_why_175 : decode cX12_why 175 = .ok (.iload 5, 2) := by decide +kernel
theorem dX12_why_177 : decode cX12_why 177 = .ok (.istore 5, 2) := by decide +kernel
theorem dX12_why_170 : decode cX12_why 170 = .ok (.iload 9, 2) := by decide +kernel
theorem dX12_why_172 : decode cX12_why 172 = .ok (.goto 5, 3) := by decide +kernel
theorem dX12_why_148 : decode cX12_why 148 = .ok (.bipush 10, 2) := by decide +kernel
theorem dX12_why_150 : decode cX12_why 150 = .ok (.iload 6, 2) := by decide +kernel
theorem dX12_why_152 : decode cX12_why 152 = .ok (.imul, 1) := by decide +kernel
theorem dX12_why_153 : decode cX12_why 153 = .ok (.iload 7, 2) := by decide +kernel
theorem dX12_why_155 : decode cX12_why 155 = .ok (.iadd, 1) := by decide +kernel
theorem dX12_why_156 : decode cX12_why 156 = .ok (.goto 5, 3) := by decide +kernel
theorem dX12_why_68 : decode cX12_why 68 = .ok (.iconst 1, 1) := by decide +kernel
theorem dX12_why_69 : decode cX12_why 69 = .ok (.goto 4, 3) := by decide +kernel
theorem dX12_why_87 : decode cX12_why 87 = .ok (.iconst 0, 1) := by decide +kernel
theorem dX12_why_88 : decode cX12_why 88 = .ok (.goto 10, 3) := by decide +kernel
theorem dX12_why_108 : decode cX12_why 108 = .ok (.aload_n 0, 1) := by decide +kernel
theorem dX12_why_109 : decode cX12_why 109 = .ok (.iload 6, 2) := by decide +kernel
theorem dX12_why_111 : decode cX12_why 111 = .ok (.iconst 1, 1) := by decide +kernel
theorem dX12_why_112 : decode cX12_why 112 = .ok (.invokevirtual 215, 3) := by decide +kernel
theorem dX12_why_115 : decode cX12_why 115 = .ok (.goto 21, 3) := by decide +kernel
theorem dX12_why_185 : decode cX12_why 185 = .ok (.iinc 6 1, 3) := by decide +kernel
theorem dX12_why_188 : decode cX12_why 188 = .ok (.goto (-153), 3) := by decide +kernel
theorem dX12_why_191 : decode cX12_why 191 = .ok (.iload_n 2, 1) := by decide +kernel
theorem dX12_why_192 : decode cX12_why 192 = .ok (.ifCond .ne 7, 3) := by decide +kernel
theorem dX12_why_199 : decode cX12_why 199 = .ok (.iload 4, 2) := by decide +kernel
theorem dX12_why_201 : decode cX12_why 201 = .ok (.ireturn, 1) := by decide +kernel
theorem dX12_why_195 : decode cX12_why 195 = .ok (.iload_n 3, 1) := by decide +kernel
theorem dX12_why_196 : decode cX12_why 196 = .ok (.goto 5, 3) := by decide +kernel
theorem dX12_why_17 : decode cX12_why 17 = .ok (.aload_n 0, 1) := by decide +kernel
theorem dX12_why_18 : decode cX12_why 18 = .ok (.bipush (-2), 2) := by decide +kernel
theorem dX12_why_20 : decode cX12_why 20 = .ok (.invokevirtual 61, 3) := by decide +kernel
theorem dX12_why_23 : decode cX12_why 23 = .ok (.ireturn, 1) := by decide +kernel
set_option maxRecDepth 20000 in
theorem iw_m_why_X12 : ∀ w ∈ wsX120, w ∈ wsX12_why := by decide +kernel
set_option maxHeartbeats 4000000 in
set_option maxRecDepth 100000 in
theorem m_why (l : Launch) (dC : Nat → ClassId) (dI : Nat → Nat → Nat) (mo : Nat) (nw : Nat) (kp : Nat) (ik : Nat) (mr : Nat) (la_ : Int64) (lb_ : Int64) (mw : Nat) (lc_ : Int64) (ti_ : Int32) (cb_ : Int32) (ld_ : Int64) (le_ : Int64) (mq : Nat) (mz : Nat) (my : Nat) (sm_ : Int32) (mb : Nat) (bl_ : Int32) (ta_ : Int32) (tl_ : Int32) (tk_ : Int32) (vl_ : Int32) (mx : Nat) (mv : Nat) (cn_ : ClassId) (fn : Nat → Int32) (cr_ : ClassId) (fr_ : Nat → Int32) (na : Int32) (nb : Int32) (sz : Nat) (hOn : tz_OK 350 fn) : Met l yX12_why wsX12_why ({ frames := 2, cells := 0, slots := 0, locals := 45 }) (va_Pc [.ref mo, .int na, .int nb] (fun U => U.heap.size = sz ∧ va_P (dC, dI) vwCl [(mo, .inr (12, [.ref nw, .ref kp, .ref ik, .ref mr, .long la_, .long lb_, .ref mw, .long lc_, .int ti_, .int cb_, .long ld_, .long le_, .ref mq, .ref mz, .ref my, .int sm_, .ref mb, .int bl_, .int ta_, .int tl_, .int tk_, .int vl_, .ref mx, .ref mv])), (nw, .inl (cn_, 350, .inl fn)), (mr, .inl (cr_, 3, .inl fr_))] U.heap ∧ va_K (dC, dI) vwCl [(cn_, .int), (cr_, .int)] U ∧ va_D (fun _ => True) [(mo, .inr (12, [.ref nw, .ref kp, .ref ik, .ref mr, .long la_, .long lb_, .ref mw, .long lc_, .int ti_, .int cb_, .long ld_, .long le_, .ref mq, .ref mz, .ref my, .int sm_, .ref mb, .int bl_, .int ta_, .int tl_, .int tk_, .int vl_, .ref mx, .ref mv])), (nw, .inl (cn_, 350, .inl fn)), (mr, .inl (cr_, 3, .inl fr_))])) (va_Qi (fun (r : Int32) (_ : Unit) => True) (fun _ t => ∃ (gr_ : Nat → Int32), va_P (dC, dI) vwCl [(mo, .inr (12, [.ref nw, .ref kp, .ref ik, .ref mr, .long la_, .long lb_, .ref mw, .long lc_, .int ti_, .int cb_, .long ld_, .long le_, .ref mq, .ref mz, .ref my, .int sm_, .ref mb, .int bl_, .int ta_, .int tl_, .int tk_, .int vl_, .ref mx, .ref mv])), (nw, .inl (cn_, 350, .inl fn)), (mr, .inl (cr_, 3, .inl gr_))] t.heap ∧ va_K (dC, dI) vwCl [(cn_, .int), (cr_, .int)] t ∧ va_D (va_A [(mo, .inr (12, [.ref nw, .ref kp, .ref ik, .ref mr, .long la_, .long lb_, .ref mw, .long lc_, .int ti_, .int cb_, .long ld_, .long le_, .ref mq, .ref mz, .ref my, .int sm_, .ref mb, .int bl_, .int ta_, .int tl_, .int tk_, .int vl_, .ref mx, .ref mv])), (nw, .inl (cn_, 350, .inl fn)), (mr, .inl (cr_, 3, .inl fr_))] sz) [(mo, .inr (12, [.ref nw, .ref kp, .ref ik, .ref mr, .long la_, .long lb_, .ref mw, .long lc_, .int ti_, .int cb_, .long ld_, .long le_, .ref mq, .ref mz, .ref my, .int sm_, .ref mb, .int bl_, .int ta_, .int tl_, .int tk_, .int vl_, .ref mx, .ref mv])), (nw, .inl (cn_, 350, .inl fn)), (mr, .inl (cr_, 3, .inl gr_))]) (va_A [(mo, .inr (12, [.ref nw, .ref kp, .ref ik, .ref mr, .long la_, .long lb_, .ref mw, .long lc_, .int ti_, .int cb_, .long ld_, .long le_, .ref mq, .ref mz, .ref my, .int sm_, .ref mb, .int bl_, .int ta_, .int tl_, .int tk_, .int vl_, .ref mx, .ref mv])), (nw, .inl (cn_, 350, .inl fn)), (mr, .inl (cr_, 3, .inl fr_))] sz)) 0 0 (va_A [(mo, .inr (12, [.ref nw, .ref kp, .ref ik, .ref mr, .long la_, .long lb_, .ref mw, .long lc_, .int ti_, .int cb_, .long ld_, .long le_, .ref mq, .ref mz, .ref my, .int sm_, .ref mb, .int bl_, .int ta_, .int tl_, .int tk_, .int vl_, .ref mx, .ref mv])), (nw, .inl (cn_, 350, .inl fn)), (mr, .inl (cr_, 3, .inl fr_))] sz) := by
  refine Met.ofW (cc := cX12_why) (maxL := 10) (ret := (some .int)) (by decide) rfl ?_
  intro p e s m args below meth c s₁ B hml hv
  obtain ⟨rfl, hsz, hP, hK, hD0⟩ := hv
  have hx := B.exec
  have hb := B.bytes
  have hr := B.returns
  have hts := atoms_spec (ws := wsX12_why) B.pre
  have hown : s.vm.findClass RX12 = some m.cls := findClass_of_methodNamed B.named
  have hlocks := B.notSynchronized
  subst hsz
  have hD := hD0.self (sz := s.heap.size)
  generalize hAe : va_A [(mo, .inr (12, [.ref nw, .ref kp, .ref ik, .ref mr, .long la_, .long lb_, .ref mw, .long lc_, .int ti_, .int cb_, .long ld_, .long le_, .ref mq, .ref mz, .ref my, .int sm_, .ref mb, .int bl_, .int ta_, .int tl_, .int tk_, .int vl_, .ref mx, .ref mv])), (nw, .inl (cn_, 350, .inl fn)), (mr, .inl (cr_, 3, .inl fr_))] s.heap.size = A at hD ⊢
  have hA : ∀ q : Nat, s.heap.size ≤ q → A q := fun q h => by rw [← hAe]; exact Or.inr h
  have hS : va_S A s.heap s.heap [] := va_S.rf
  have hP : va_P (dC, dI) vwCl [(mo, .inr (12, [.ref nw, .ref kp, .ref ik, .ref mr, .long la_, .long lb_, .ref mw, .long lc_, .int ti_, .int cb_, .long ld_, .long le_, .ref mq, .ref mz, .ref my, .int sm_, .ref mb, .int bl_, .int ta_, .int tl_, .int tk_, .int vl_, .ref mx, .ref mv])), (nw, .inl (cn_, 350, .inl fn)), (mr, .inl (cr_, 3, .inl fr_))] s.heap := hP
  have hl := lv_entry ([.ref mo, .int na, .int nb]) (n := 10) (Nat.le_of_ble_eq_true rfl)
  rw [lg_entry_eq]
  generalize (lg_sl ([.ref mo, .int na, .int nb]) ++ List.replicate (10 - (lg_sl ([.ref mo, .int na, .int nb])).length) Slot.unset).toArray = ls at hl ⊢
  have hl : lv_has ls 10 [(0, .ref mo), (1, .int na), (2, .int nb)] := hl
  refine lv_iload_n hx hb dX12_why_0 rfl (lv_at hl 1 rfl) ?_
  refine vp_callSi (va_Run.run (va_runS (As := [.int na]) (rest := []) ⟨hx, hb, hml, hown, hts⟩ (m_isOff l dC dI na) (va_cwS 1 hts gX12_why_X12_isOff rfl rfl rfl (by decide +kernel) ⟨Nat.le_of_ble_eq_true rfl, Nat.le_of_ble_eq_true rfl⟩) ⟨fun a U g mk q => ⟨q.1, trivial⟩, fun U hU hW => ⟨rfl, trivial⟩⟩ rfl rfl hl.1 rfl (lv_room (Nat.le_of_ble_eq_true rfl)) dX12_why_1 ⟨Nat.le_of_ble_eq_true rfl, Nat.le_of_ble_eq_true rfl⟩)) (fun r_1 hw_2 => ?_)
  by_cases hc_3 : (-198) ≤ na ∧ na ≤ 198
  · obtain rfl : 1 = r_1 := (hw_2.trans (if_pos hc_3)).symm
    refine lv_if_eq (tgt := 17) hx hb dX12_why_4 (by decide) (fun c_4 => ?_) (fun c_4 => ?_)
    · exact absurd c_4 (by decide)
    · refine lv_iload_n hx hb dX12_why_7 rfl (lv_at hl 2 rfl) ?_
      refine lv_i2l (v := nb.toInt64) hx hb dX12_why_8 rfl ?_
      refine lv_lconst (v := 0) hx hb dX12_why_9 (by decide) ?_
      refine lv_lconst (v := 1) hx hb dX12_why_10 (by decide) ?_
      refine vp_callSi (va_Run.run (va_runS (As := [.long nb.toInt64, .long 0, .long 1]) (rest := []) ⟨hx, hb, hml, hown, hts⟩ (m_in l dC dI nb.toInt64 0 1) (va_cwS 3 hts gX12_why_X12_in rfl rfl rfl (by decide +kernel) ⟨Nat.le_of_ble_eq_true rfl, Nat.le_of_ble_eq_true rfl⟩) ⟨fun a U g mk q => ⟨q.1, trivial⟩, fun U hU hW => ⟨rfl, trivial⟩⟩ rfl rfl hl.1 rfl (lv_room (Nat.le_of_ble_eq_true rfl)) dX12_why_11 ⟨Nat.le_of_ble_eq_true rfl, Nat.le_of_ble_eq_true rfl⟩)) (fun r_5 hw_6 => ?_)
      by_cases hc_7 : 0 ≤ nb ∧ nb ≤ 1
      · obtain rfl : 1 = r_5 := (hw_6.trans (if_pos ((tz_in64 (by first | rfl | decide) rfl (by first | rfl | decide)).mpr hc_7))).symm
        refine lv_if_ne (tgt := 24) hx hb dX12_why_14 (by decide) (fun c_8 => ?_) (fun c_8 => ?_)
        · refine lv_iconst (v := 0) hx hb dX12_why_24 (by decide) ?_
          refine lv_istore_n (lv' := [(3, .int 0), (0, .ref mo), (1, .int na), (2, .int nb)]) hx hb dX12_why_25 rfl hl (by decide) rfl (fun ls hl => ?_)
          refine lv_iconst (v := (-1)) hx hb dX12_why_26 (by decide) ?_
          refine lv_istore (lv' := [(4, .int (-1)), (3, .int 0), (0, .ref mo), (1, .int na), (2, .int nb)]) hx hb dX12_why_27 hl (by decide) rfl (fun ls hl => ?_)
          refine lv_iconst (v := (-1)) hx hb dX12_why_29 (by decide) ?_
          refine lv_istore (lv' := [(5, .int (-1)), (4, .int (-1)), (3, .int 0), (0, .ref mo), (1, .int na), (2, .int nb)]) hx hb dX12_why_30 hl (by decide) rfl (fun ls hl => ?_)
          refine lv_iconst (v := 0) hx hb dX12_why_32 (by decide) ?_
          refine lv_istore (lv' := [(6, .int 0), (5, .int (-1)), (4, .int (-1)), (3, .int 0), (0, .ref mo), (1, .int na), (2, .int nb)]) hx hb dX12_why_33 hl (by decide) rfl (fun ls hl => ?_)
          refine tz_while (σ := Nat × Int32 × Int32 × Int32 × Array Slot) (fun x => W p l e _ s m _ below meth c _ _ _ _ _ (F0 m 35 x.2.2.2.2 [])) (fun x => x.1 ≤ 6 ∧ lv_has x.2.2.2.2 10 [(6, .int (nI x.1)), (5, .int x.2.1), (4, .int x.2.2.1), (3, .int x.2.2.2.1), (0, .ref mo), (1, .int na), (2, .int nb)]) (fun x => 6 - x.1) ?_ (0, (-1), (-1), 0, ls) ⟨by (try dsimp only); omega, hl⟩
          rintro ⟨k_9, v_175, v_176, v_177, ls⟩ ⟨hi_343_0, hl⟩ ih_344
          dsimp only at hi_343_0 hl ih_344 ⊢
          refine lv_iload hx hb dX12_why_35 (lv_at hl 0 rfl) ?_
          refine lv_aload_n hx hb dX12_why_37 rfl (lv_at hl 4 rfl) ?_
          refine va_get (D := (dC, dI)) (ci := 12) (v := .ref nw) (C := RX12) (T := TX12) (N := 24) hx hb hts iw_m_why_X12 hown hK hP 0 rfl rfl 0 (by decide) (hts (.fieldLink RX12 7 "ThriceCountedModel" "now" "[I") (by decide +kernel)) (fun _ h9 => h9) rfl dX12_why_38 ?_
          refine lv_iconst (v := 3) hx hb dX12_why_41 (by decide) ?_
          refine va_iald hx hb hK hP 1 0 rfl rfl (show ¬ ((3 : Int32) < 0 ∨ 350 ≤ (3 : Int32).toNatClampNeg) by decide) dX12_why_42 ?_
          obtain ⟨j_345, hj_346, ej_347⟩ := hOn.nat (K := 3) (n := 6) (by omega) (show tz_b 3 = (0, 6) from by decide)
          refine tz_i (nI j_345) ej_347 ?_
          refine lv_icmp_ge (tgt := 191) hx hb dX12_why_43 (by decide) (fun c_348 => ?_) (fun c_348 => ?_)
          · have hn_349 : j_345 ≤ k_9 := (nI_leI (a := j_345) (b := k_9) (by omega) (by omega)).mp c_348
            refine lv_iload_n hx hb dX12_why_191 rfl (lv_at hl 6 rfl) ?_
            refine lv_if_ne (tgt := 199) hx hb dX12_why_192 (by decide) (fun c_350 => ?_) (fun c_350 => ?_)
            · refine lv_iload hx hb dX12_why_199 (lv_at hl 2 rfl) ?_
              have hP9 := hP.sub (ws' := [(mo, .inr (12, [.ref nw, .ref kp, .ref ik, .ref mr, .long la_, .long lb_, .ref mw, .long lc_, .int ti_, .int cb_, .long ld_, .long le_, .ref mq, .ref mz, .ref my, .int sm_, .ref mb, .int bl_, .int ta_, .int tl_, .int tk_, .int vl_, .ref mx, .ref mv])), (nw, .inl (cn_, 350, .inl fn)), (mr, .inl (cr_, 3, .inl fr_))]) [0, 1, 2] rfl
              have hD9 := hD.sub (ws' := [(mo, .inr (12, [.ref nw, .ref kp, .ref ik, .ref mr, .long la_, .long lb_, .ref mw, .long lc_, .int ti_, .int cb_, .long ld_, .long le_, .ref mq, .ref mz, .ref my, .int sm_, .ref mb, .int bl_, .int ta_, .int tl_, .int tk_, .int vl_, .ref mx, .ref mv])), (nw, .inl (cn_, 350, .inl fn)), (mr, .inl (cr_, 3, .inl fr_))]) [0, 1, 2] (by decide) rfl
              have hK9 := hK.sub (tys' := [(cn_, .int), (cr_, .int)]) [0, 1] rfl
              exact W.iret (v := v_176) hx hb hr (fun t ht hW => ⟨⟨v_176, (), rfl, trivial, fr_, by rw [ht]; exact hP9, va_K.moved hW.alike hK9, hD9⟩, hS.F ht⟩) hS.2.2 dX12_why_201
            · refine lv_iload_n hx hb dX12_why_195 rfl (lv_at hl 3 rfl) ?_
              refine lv_goto (tgt := 201) hx hb dX12_why_196 (by decide) ?_
              have hP9 := hP.sub (ws' := [(mo, .inr (12, [.ref nw, .ref kp, .ref ik, .ref mr, .long la_, .long lb_, .ref mw, .long lc_, .int ti_, .int cb_, .long ld_, .long le_, .ref mq, .ref mz, .ref my, .int sm_, .ref mb, .int bl_, .int ta_, .int tl_, .int tk_, .int vl_, .ref mx, .ref mv])), (nw, .inl (cn_, 350, .inl fn)), (mr, .inl (cr_, 3, .inl fr_))]) [0, 1, 2] rfl
              have hD9 := hD.sub (ws' := [(mo, .inr (12, [.ref nw, .ref kp, .ref ik, .ref mr, .long la_, .long lb_, .ref mw, .long lc_, .int ti_, .int cb_, .long ld_, .long le_, .ref mq, .ref mz, .ref my, .int sm_, .ref mb, .int bl_, .int ta_, .int tl_, .int tk_, .int vl_, .ref mx, .ref mv])), (nw, .inl (cn_, 350, .inl fn)), (mr, .inl (cr_, 3, .inl fr_))]) [0, 1, 2] (by decide) rfl
              have hK9 := hK.sub (tys' := [(cn_, .int), (cr_, .int)]) [0, 1] rfl
              exact W.iret (v := v_177) hx hb hr (fun t ht hW => ⟨⟨v_177, (), rfl, trivial, fr_, by rw [ht]; exact hP9, va_K.moved hW.alike hK9, hD9⟩, hS.F ht⟩) hS.2.2 dX12_why_201
          · have hn_351 : ¬ j_345 ≤ k_9 := fun q => c_348 ((nI_leI (a := j_345) (b := k_9) (by omega) (by omega)).mpr q)
            refine lv_iload hx hb dX12_why_46 (lv_at hl 0 rfl) ?_
            refine lv_istore (lv' := [(7, .int (nI k_9)), (6, .int (nI k_9)), (5, .int v_175), (4, .int v_176), (3, .int v_177), (0, .ref mo), (1, .int na), (2, .int nb)]) hx hb dX12_why_48 hl (by decide) rfl (fun ls hl => ?_)
            refine tz_while (σ := Nat × Int32 × Int32 × Int32 × Array Slot) (fun x => W p l e _ s m _ below meth c _ _ _ _ _ (F0 m 50 x.2.2.2.2 [])) (fun x => x.1 ≤ 6 + k_9 ∧ lv_has x.2.2.2.2 10 [(7, .int (nI x.1)), (6, .int (nI k_9)), (5, .int x.2.2.1), (4, .int x.2.2.2.1), (3, .int x.2.1), (0, .ref mo), (1, .int na), (2, .int nb)]) (fun x => 6 + k_9 - x.1) ?_ (k_9, v_177, v_175, v_176, ls) ⟨by (try dsimp only); omega, hl⟩
            rintro ⟨k_352, v_404, v_405, v_406, ls⟩ ⟨hi_458_0, hl⟩ ih_459
            dsimp only at hi_458_0 hl ih_459 ⊢
            refine lv_iload hx hb dX12_why_50 (lv_at hl 0 rfl) ?_
            refine lv_aload_n hx hb dX12_why_52 rfl (lv_at hl 5 rfl) ?_
            refine va_get (D := (dC, dI)) (ci := 12) (v := .ref nw) (C := RX12) (T := TX12) (N := 24) hx hb hts iw_m_why_X12 hown hK hP 0 rfl rfl 0 (by decide) (hts (.fieldLink RX12 7 "ThriceCountedModel" "now" "[I") (by decide +kernel)) (fun _ h9 => h9) rfl dX12_why_53 ?_
            refine lv_iconst (v := 3) hx hb dX12_why_56 (by decide) ?_
            refine va_iald hx hb hK hP 1 0 rfl rfl (show ¬ ((3 : Int32) < 0 ∨ 350 ≤ (3 : Int32).toNatClampNeg) by decide) dX12_why_57 ?_
            refine tz_i (nI j_345) ej_347 ?_
            refine lv_icmp_ge (tgt := 185) hx hb dX12_why_58 (by decide) (fun c_460 => ?_) (fun c_460 => ?_)
            · have hn_461 : j_345 ≤ k_352 := (nI_leI (a := j_345) (b := k_352) (by omega) (by omega)).mp c_460
              refine lv_iinc (v := (nI (k_9 + 1))) (lv' := [(6, .int (nI (k_9 + 1))), (7, .int (nI k_352)), (5, .int v_405), (4, .int v_406), (3, .int v_404), (0, .ref mo), (1, .int na), (2, .int nb)]) hx hb dX12_why_185 hl (k := 1) rfl (nI_add k_9 1) (by decide) rfl (fun ls hl => ?_)
              refine lv_goto (tgt := 35) hx hb dX12_why_188 (by decide) ?_
              exact ih_344 ((k_9 + 1), v_405, v_406, v_404, ls) ⟨by dsimp only; omega, lv_sub hl [0, 2, 3, 4, 5, 6, 7] rfl⟩ (by dsimp only; omega)
            · have hn_462 : ¬ j_345 ≤ k_352 := fun q => c_460 ((nI_leI (a := j_345) (b := k_352) (by omega) (by omega)).mpr q)
              refine lv_iload hx hb dX12_why_61 (lv_at hl 1 rfl) ?_
              refine lv_iload hx hb dX12_why_63 (lv_at hl 0 rfl) ?_
              refine lv_icmp_ne (tgt := 72) hx hb dX12_why_65 (by decide) (fun c_463 => ?_) (fun c_463 => ?_)
              · have hn_464 : ¬ k_9 = k_352 := fun q => c_463 ((nI_eq (a := k_9) (b := k_352) (by omega) (by omega)).mpr q)
                refine lv_iconst (v := 0) hx hb dX12_why_72 (by decide) ?_
                refine lv_istore (lv' := [(8, .int 0), (7, .int (nI k_352)), (6, .int (nI k_9)), (5, .int v_405), (4, .int v_406), (3, .int v_404), (0, .ref mo), (1, .int na), (2, .int nb)]) hx hb dX12_why_73 hl (by decide) rfl (fun ls hl => ?_)
                refine lv_aload_n hx hb dX12_why_75 rfl (lv_at hl 6 rfl) ?_
                refine lv_iload hx hb dX12_why_76 (lv_at hl 2 rfl) ?_
                refine lv_iconst (v := 0) hx hb dX12_why_78 (by decide) ?_
                have hPc_465 := hP.sub (ws' := [(mo, .inr (12, [.ref nw, .ref kp, .ref ik, .ref mr, .long la_, .long lb_, .ref mw, .long lc_, .int ti_, .int cb_, .long ld_, .long le_, .ref mq, .ref mz, .ref my, .int sm_, .ref mb, .int bl_, .int ta_, .int tl_, .int tk_, .int vl_, .ref mx, .ref mv])), (nw, .inl (cn_, 350, .inl fn))]) [0, 1] rfl
                have hKc_466 := hK.sub (tys' := [(cn_, .int)]) [0] rfl
                refine vp_callSi (va_Run.run (va_runV (As := [.int (nI k_9), .int 0]) (rest := []) ⟨hx, hb, hml, hown, hts⟩ (m_causeHas0 l dC dI mo nw kp ik mr la_ lb_ mw lc_ ti_ cb_ ld_ le_ mq mz my sm_ mb bl_ ta_ tl_ tk_ vl_ mx mv cn_ fn k_9 hOn (by omega)) (cwV 2 hts gX12_why_X12_causeHas rfl rfl rfl (by decide +kernel) ⟨Nat.le_of_ble_eq_true rfl, Nat.le_of_ble_eq_true rfl⟩) ⟨fun a U g mk q => by obtain ⟨q0, qP, qK⟩ := q; exact ⟨q0, qP, va_K.moved (u := U) (U := U.calling g mk a) (Vm.Alike.refl U.vm) qK⟩, va_recv hK hP (ci := 12) (q0 := 0) rfl rfl, fun U hU hW => ⟨rfl, by rw [hU]; exact hPc_465, va_K.moved hW.alike hKc_466⟩⟩ rfl rfl hl.1 rfl (lv_room (Nat.le_of_ble_eq_true rfl)) dX12_why_79 ⟨Nat.le_of_ble_eq_true rfl, Nat.le_of_ble_eq_true rfl⟩)) (fun r_467 hw_468 => ?_)
                refine lv_iload hx hb dX12_why_82 (lv_at hl 0 rfl) ?_
                refine lv_if_eq (tgt := 91) hx hb dX12_why_84 (by decide) (fun c_469 => ?_) (fun c_469 => ?_)
                · refine lv_aload_n hx hb dX12_why_91 rfl (lv_at hl 6 rfl) ?_
                  refine lv_iload hx hb dX12_why_92 (lv_at hl 1 rfl) ?_
                  refine lv_iconst (v := 0) hx hb dX12_why_94 (by decide) ?_
                  have hPc_470 := hP.sub (ws' := [(mo, .inr (12, [.ref nw, .ref kp, .ref ik, .ref mr, .long la_, .long lb_, .ref mw, .long lc_, .int ti_, .int cb_, .long ld_, .long le_, .ref mq, .ref mz, .ref my, .int sm_, .ref mb, .int bl_, .int ta_, .int tl_, .int tk_, .int vl_, .ref mx, .ref mv])), (nw, .inl (cn_, 350, .inl fn))]) [0, 1] rfl
                  have hKc_471 := hK.sub (tys' := [(cn_, .int)]) [0] rfl
                  refine vp_callSi (va_Run.run (va_runV (As := [.int (nI k_352), .int 0]) (rest := [.int r_467]) ⟨hx, hb, hml, hown, hts⟩ (m_causeHas0 l dC dI mo nw kp ik mr la_ lb_ mw lc_ ti_ cb_ ld_ le_ mq mz my sm_ mb bl_ ta_ tl_ tk_ vl_ mx mv cn_ fn k_352 hOn (by omega)) (cwV 2 hts gX12_why_X12_causeHas rfl rfl rfl (by decide +kernel) ⟨Nat.le_of_ble_eq_true rfl, Nat.le_of_ble_eq_true rfl⟩) ⟨fun a U g mk q => by obtain ⟨q0, qP, qK⟩ := q; exact ⟨q0, qP, va_K.moved (u := U) (U := U.calling g mk a) (Vm.Alike.refl U.vm) qK⟩, va_recv hK hP (ci := 12) (q0 := 0) rfl rfl, fun U hU hW => ⟨rfl, by rw [hU]; exact hPc_470, va_K.moved hW.alike hKc_471⟩⟩ rfl rfl hl.1 rfl (lv_room (Nat.le_of_ble_eq_true rfl)) dX12_why_95 ⟨Nat.le_of_ble_eq_true rfl, Nat.le_of_ble_eq_true rfl⟩)) (fun r_472 hw_473 => ?_)
                  refine lv_iadd hx hb dX12_why_98 ?_
                  refine lv_topi (fun x_474 _ => ?_)
                  refine lv_iload_n hx hb dX12_why_99 rfl (lv_at hl 7 rfl) ?_
                  refine lv_icmp_ne (tgt := 179) hx hb dX12_why_100 (by decide) (fun c_475 => ?_) (fun c_475 => ?_)
                  · refine lv_iinc (v := (nI (k_352 + 1))) (lv' := [(7, .int (nI (k_352 + 1))), (8, .int 0), (6, .int (nI k_9)), (5, .int v_405), (4, .int v_406), (3, .int v_404), (0, .ref mo), (1, .int na), (2, .int nb)]) hx hb dX12_why_179 hl (k := 1) rfl (nI_add k_352 1) (by decide) rfl (fun ls hl => ?_)
                    refine lv_goto (tgt := 50) hx hb dX12_why_182 (by decide) ?_
                    exact ih_459 ((k_352 + 1), v_404, v_405, v_406, ls) ⟨by dsimp only; omega, lv_sub hl [0, 2, 3, 4, 5, 6, 7, 8] rfl⟩ (by dsimp only; omega)
                  · refine lv_iload hx hb dX12_why_103 (lv_at hl 0 rfl) ?_
                    refine lv_if_eq (tgt := 118) hx hb dX12_why_105 (by decide) (fun c_476 => ?_) (fun c_476 => ?_)
                    · refine lv_aload_n hx hb dX12_why_118 rfl (lv_at hl 6 rfl) ?_
                      refine lv_iload hx hb dX12_why_119 (lv_at hl 2 rfl) ?_
                      refine lv_iconst (v := 1) hx hb dX12_why_121 (by decide) ?_
                      have hPc_477 := hP.sub (ws' := [(mo, .inr (12, [.ref nw, .ref kp, .ref ik, .ref mr, .long la_, .long lb_, .ref mw, .long lc_, .int ti_, .int cb_, .long ld_, .long le_, .ref mq, .ref mz, .ref my, .int sm_, .ref mb, .int bl_, .int ta_, .int tl_, .int tk_, .int vl_, .ref mx, .ref mv])), (nw, .inl (cn_, 350, .inl fn))]) [0, 1] rfl
                      have hKc_478 := hK.sub (tys' := [(cn_, .int)]) [0] rfl
                      refine vp_callSi (va_Run.run (va_runV (As := [.int (nI k_9), .int 1]) (rest := []) ⟨hx, hb, hml, hown, hts⟩ (m_causeHas1 l dC dI mo nw kp ik mr la_ lb_ mw lc_ ti_ cb_ ld_ le_ mq mz my sm_ mb bl_ ta_ tl_ tk_ vl_ mx mv cn_ fn k_9 hOn (by omega)) (cwV 2 hts gX12_why_X12_causeHas rfl rfl rfl (by decide +kernel) ⟨Nat.le_of_ble_eq_true rfl, Nat.le_of_ble_eq_true rfl⟩) ⟨fun a U g mk q => by obtain ⟨q0, qP, qK⟩ := q; exact ⟨q0, qP, va_K.moved (u := U) (U := U.calling g mk a) (Vm.Alike.refl U.vm) qK⟩, va_recv hK hP (ci := 12) (q0 := 0) rfl rfl, fun U hU hW => ⟨rfl, by rw [hU]; exact hPc_477, va_K.moved hW.alike hKc_478⟩⟩ rfl rfl hl.1 rfl (lv_room (Nat.le_of_ble_eq_true rfl)) dX12_why_122 ⟨Nat.le_of_ble_eq_true rfl, Nat.le_of_ble_eq_true rfl⟩)) (fun r_479 hw_480 => ?_)
                      obtain ⟨j_481, hj_482, rfl⟩ := hw_480
                      refine lv_aload_n hx hb dX12_why_125 rfl (lv_at hl 6 rfl) ?_
                      refine lv_iload hx hb dX12_why_126 (lv_at hl 1 rfl) ?_
                      refine lv_iconst (v := 1) hx hb dX12_why_128 (by decide) ?_
                      have hPc_483 := hP.sub (ws' := [(mo, .inr (12, [.ref nw, .ref kp, .ref ik, .ref mr, .long la_, .long lb_, .ref mw, .long lc_, .int ti_, .int cb_, .long ld_, .long le_, .ref mq, .ref mz, .ref my, .int sm_, .ref mb, .int bl_, .int ta_, .int tl_, .int tk_, .int vl_, .ref mx, .ref mv])), (nw, .inl (cn_, 350, .inl fn))]) [0, 1] rfl
                      have hKc_484 := hK.sub (tys' := [(cn_, .int)]) [0] rfl
                      refine vp_callSi (va_Run.run (va_runV (As := [.int (nI k_352), .int 1]) (rest := [.int (nI j_481)]) ⟨hx, hb, hml, hown, hts⟩ (m_causeHas1 l dC dI mo nw kp ik mr la_ lb_ mw lc_ ti_ cb_ ld_ le_ mq mz my sm_ mb bl_ ta_ tl_ tk_ vl_ mx mv cn_ fn k_352 hOn (by omega)) (cwV 2 hts gX12_why_X12_causeHas rfl rfl rfl (by decide +kernel) ⟨Nat.le_of_ble_eq_true rfl, Nat.le_of_ble_eq_true rfl⟩) ⟨fun a U g mk q => by obtain ⟨q0, qP, qK⟩ := q; exact ⟨q0, qP, va_K.moved (u := U) (U := U.calling g mk a) (Vm.Alike.refl U.vm) qK⟩, va_recv hK hP (ci := 12) (q0 := 0) rfl rfl, fun U hU hW => ⟨rfl, by rw [hU]; exact hPc_483, va_K.moved hW.alike hKc_484⟩⟩ rfl rfl hl.1 rfl (lv_room (Nat.le_of_ble_eq_true rfl)) dX12_why_129 ⟨Nat.le_of_ble_eq_true rfl, Nat.le_of_ble_eq_true rfl⟩)) (fun r_485 hw_486 => ?_)
                      obtain ⟨j_487, hj_488, rfl⟩ := hw_486
                      refine lv_imul hx hb dX12_why_132 ?_
                      refine tz_i (nI (j_481 * j_487)) (pk_mul j_481 j_487) ?_
                      refine lv_bipush (v := 20) hx hb dX12_why_133 (by decide) ?_
                      refine lv_idiv hx hb dX12_why_135 (by decide) ?_
                      refine lv_topi (fun x_489 _ => ?_)
                      refine lv_istore (lv' := [(9, .int x_489), (8, .int 0), (7, .int (nI k_352)), (6, .int (nI k_9)), (5, .int v_405), (4, .int v_406), (3, .int v_404), (0, .ref mo), (1, .int na), (2, .int nb)]) hx hb dX12_why_136 hl (by decide) rfl (fun ls hl => ?_)
                      refine lv_iinc (v := (v_404 + 1)) (lv' := [(3, .int (v_404 + 1)), (9, .int x_489), (8, .int 0), (7, .int (nI k_352)), (6, .int (nI k_9)), (5, .int v_405), (4, .int v_406), (0, .ref mo), (1, .int na), (2, .int nb)]) hx hb dX12_why_138 hl (k := 6) rfl rfl (by decide) rfl (fun ls hl => ?_)
                      refine lv_iload hx hb dX12_why_141 (lv_at hl 1 rfl) ?_
                      refine lv_iload hx hb dX12_why_143 (lv_at hl 5 rfl) ?_
                      refine lv_icmp_le (tgt := 159) hx hb dX12_why_145 (by decide) (fun c_490 => ?_) (fun c_490 => ?_)
                      · refine lv_iload hx hb dX12_why_159 (lv_at hl 6 rfl) ?_
                        refine lv_istore (lv' := [(4, .int v_406), (3, .int (v_404 + 1)), (9, .int x_489), (8, .int 0), (7, .int (nI k_352)), (6, .int (nI k_9)), (5, .int v_405), (0, .ref mo), (1, .int na), (2, .int nb)]) hx hb dX12_why_161 hl (by decide) rfl (fun ls hl => ?_)
                        refine lv_iload hx hb dX12_why_163 (lv_at hl 2 rfl) ?_
                        refine lv_iload hx hb dX12_why_165 (lv_at hl 6 rfl) ?_
                        refine lv_icmp_le (tgt := 175) hx hb dX12_why_167 (by decide) (fun c_491 => ?_) (fun c_491 => ?_)
                        · refine lv_iload hx hb dX12_why_175 (lv_at hl 6 rfl) ?_
                          refine lv_istore (lv' := [(5, .int v_405), (4, .int v_406), (3, .int (v_404 + 1)), (9, .int x_489), (8, .int 0), (7, .int (nI k_352)), (6, .int (nI k_9)), (0, .ref mo), (1, .int na), (2, .int nb)]) hx hb dX12_why_177 hl (by decide) rfl (fun ls hl => ?_)
                          refine lv_iinc (v := (nI (k_352 + 1))) (lv' := [(7, .int (nI (k_352 + 1))), (5, .int v_405), (4, .int v_406), (3, .int (v_404 + 1)), (9, .int x_489), (8, .int 0), (6, .int (nI k_9)), (0, .ref mo), (1, .int na), (2, .int nb)]) hx hb dX12_why_179 hl (k := 5) rfl (nI_add k_352 1) (by decide) rfl (fun ls hl => ?_)
                          refine lv_goto (tgt := 50) hx hb dX12_why_182 (by decide) ?_
                          exact ih_459 ((k_352 + 1), (v_404 + 1), v_405, v_406, ls) ⟨by dsimp only; omega, lv_sub hl [0, 6, 1, 2, 3, 7, 8, 9] rfl⟩ (by dsimp only; omega)
                        · refine lv_iload hx hb dX12_why_170 (lv_at hl 2 rfl) ?_
                          refine lv_goto (tgt := 177) hx hb dX12_why_172 (by decide) ?_
                          refine lv_istore (lv' := [(5, .int x_489), (4, .int v_406), (3, .int (v_404 + 1)), (9, .int x_489), (8, .int 0), (7, .int (nI k_352)), (6, .int (nI k_9)), (0, .ref mo), (1, .int na), (2, .int nb)]) hx hb dX12_why_177 hl (by decide) rfl (fun ls hl => ?_)
                          refine lv_iinc (v := (nI (k_352 + 1))) (lv' := [(7, .int (nI (k_352 + 1))), (5, .int x_489), (4, .int v_406), (3, .int (v_404 + 1)), (9, .int x_489), (8, .int 0), (6, .int (nI k_9)), (0, .ref mo), (1, .int na), (2, .int nb)]) hx hb dX12_why_179 hl (k := 5) rfl (nI_add k_352 1) (by decide) rfl (fun ls hl => ?_)
                          refine lv_goto (tgt := 50) hx hb dX12_why_182 (by decide) ?_
                          exact ih_459 ((k_352 + 1), (v_404 + 1), x_489, v_406, ls) ⟨by dsimp only; omega, lv_sub hl [0, 6, 1, 2, 3, 7, 8, 9] rfl⟩ (by dsimp only; omega)
                      · refine lv_bipush (v := 10) hx hb dX12_why_148 (by decide) ?_
                        refine lv_iload hx hb dX12_why_150 (lv_at hl 4 rfl) ?_
                        refine lv_imul hx hb dX12_why_152 ?_
                        refine tz_i (nI (10 * k_9)) (pk_mul 10 k_9) ?_
                        refine lv_iload hx hb dX12_why_153 (lv_at hl 3 rfl) ?_
                        refine lv_iadd hx hb dX12_why_155 ?_
                        refine tz_i (nI ((10 * k_9) + k_352)) (nI_add (10 * k_9) k_352) ?_
                        refine lv_goto (tgt := 161) hx hb dX12_why_156 (by decide) ?_
                        refine lv_istore (lv' := [(4, .int (nI ((10 * k_9) + k_352))), (3, .int (v_404 + 1)), (9, .int x_489), (8, .int 0), (7, .int (nI k_352)), (6, .int (nI k_9)), (5, .int v_405), (0, .ref mo), (1, .int na), (2, .int nb)]) hx hb dX12_why_161 hl (by decide) rfl (fun ls hl => ?_)
                        refine lv_iload hx hb dX12_why_163 (lv_at hl 2 rfl) ?_
                        refine lv_iload hx hb dX12_why_165 (lv_at hl 6 rfl) ?_
                        refine lv_icmp_le (tgt := 175) hx hb dX12_why_167 (by decide) (fun c_492 => ?_) (fun c_492 => ?_)
                        · refine lv_iload hx hb dX12_why_175 (lv_at hl 6 rfl) ?_
                          refine lv_istore (lv' := [(5, .int v_405), (4, .int (nI ((10 * k_9) + k_352))), (3, .int (v_404 + 1)), (9, .int x_489), (8, .int 0), (7, .int (nI k_352)), (6, .int (nI k_9)), (0, .ref mo), (1, .int na), (2, .int nb)]) hx hb dX12_why_177 hl (by decide) rfl (fun ls hl => ?_)
                          refine lv_iinc (v := (nI (k_352 + 1))) (lv' := [(7, .int (nI (k_352 + 1))), (5, .int v_405), (4, .int (nI ((10 * k_9) + k_352))), (3, .int (v_404 + 1)), (9, .int x_489), (8, .int 0), (6, .int (nI k_9)), (0, .ref mo), (1, .int na), (2, .int nb)]) hx hb dX12_why_179 hl (k := 5) rfl (nI_add k_352 1) (by decide) rfl (fun ls hl => ?_)
                          refine lv_goto (tgt := 50) hx hb dX12_why_182 (by decide) ?_
                          exact ih_459 ((k_352 + 1), (v_404 + 1), v_405, (nI ((10 * k_9) + k_352)), ls) ⟨by dsimp only; omega, lv_sub hl [0, 6, 1, 2, 3, 7, 8, 9] rfl⟩ (by dsimp only; omega)
                        · refine lv_iload hx hb dX12_why_170 (lv_at hl 2 rfl) ?_
                          refine lv_goto (tgt := 177) hx hb dX12_why_172 (by decide) ?_
                          refine lv_istore (lv' := [(5, .int x_489), (4, .int (nI ((10 * k_9) + k_352))), (3, .int (v_404 + 1)), (9, .int x_489), (8, .int 0), (7, .int (nI k_352)), (6, .int (nI k_9)), (0, .ref mo), (1, .int na), (2, .int nb)]) hx hb dX12_why_177 hl (by decide) rfl (fun ls hl => ?_)
                          refine lv_iinc (v := (nI (k_352 + 1))) (lv' := [(7, .int (nI (k_352 + 1))), (5, .int x_489), (4, .int (nI ((10 * k_9) + k_352))), (3, .int (v_404 + 1)), (9, .int x_489), (8, .int 0), (6, .int (nI k_9)), (0, .ref mo), (1, .int na), (2, .int nb)]) hx hb dX12_why_179 hl (k := 5) rfl (nI_add k_352 1) (by decide) rfl (fun ls hl => ?_)
                          refine lv_goto (tgt := 50) hx hb dX12_why_182 (by decide) ?_
                          exact ih_459 ((k_352 + 1), (v_404 + 1), x_489, (nI ((10 * k_9) + k_352)), ls) ⟨by dsimp only; omega, lv_sub hl [0, 6, 1, 2, 3, 7, 8, 9] rfl⟩ (by dsimp only; omega)
                    · exact absurd c_476 (by decide)
                · exact absurd c_469 (by decide)
              · have hn_493 : k_9 = k_352 := (nI_eq (a := k_9) (b := k_352) (by omega) (by omega)).mp c_463
                refine lv_iconst (v := 1) hx hb dX12_why_68 (by decide) ?_
                refine lv_goto (tgt := 73) hx hb dX12_why_69 (by decide) ?_
                refine lv_istore (lv' := [(8, .int 1), (7, .int (nI k_352)), (6, .int (nI k_9)), (5, .int v_405), (4, .int v_406), (3, .int v_404), (0, .ref mo), (1, .int na), (2, .int nb)]) hx hb dX12_why_73 hl (by decide) rfl (fun ls hl => ?_)
                refine lv_aload_n hx hb dX12_why_75 rfl (lv_at hl 6 rfl) ?_
                refine lv_iload hx hb dX12_why_76 (lv_at hl 2 rfl) ?_
                refine lv_iconst (v := 0) hx hb dX12_why_78 (by decide) ?_
                have hPc_494 := hP.sub (ws' := [(mo, .inr (12, [.ref nw, .ref kp, .ref ik, .ref mr, .long la_, .long lb_, .ref mw, .long lc_, .int ti_, .int cb_, .long ld_, .long le_, .ref mq, .ref mz, .ref my, .int sm_, .ref mb, .int bl_, .int ta_, .int tl_, .int tk_, .int vl_, .ref mx, .ref mv])), (nw, .inl (cn_, 350, .inl fn))]) [0, 1] rfl
                have hKc_495 := hK.sub (tys' := [(cn_, .int)]) [0] rfl
                refine vp_callSi (va_Run.run (va_runV (As := [.int (nI k_9), .int 0]) (rest := []) ⟨hx, hb, hml, hown, hts⟩ (m_causeHas0 l dC dI mo nw kp ik mr la_ lb_ mw lc_ ti_ cb_ ld_ le_ mq mz my sm_ mb bl_ ta_ tl_ tk_ vl_ mx mv cn_ fn k_9 hOn (by omega)) (cwV 2 hts gX12_why_X12_causeHas rfl rfl rfl (by decide +kernel) ⟨Nat.le_of_ble_eq_true rfl, Nat.le_of_ble_eq_true rfl⟩) ⟨fun a U g mk q => by obtain ⟨q0, qP, qK⟩ := q; exact ⟨q0, qP, va_K.moved (u := U) (U := U.calling g mk a) (Vm.Alike.refl U.vm) qK⟩, va_recv hK hP (ci := 12) (q0 := 0) rfl rfl, fun U hU hW => ⟨rfl, by rw [hU]; exact hPc_494, va_K.moved hW.alike hKc_495⟩⟩ rfl rfl hl.1 rfl (lv_room (Nat.le_of_ble_eq_true rfl)) dX12_why_79 ⟨Nat.le_of_ble_eq_true rfl, Nat.le_of_ble_eq_true rfl⟩)) (fun r_496 hw_497 => ?_)
                refine lv_iload hx hb dX12_why_82 (lv_at hl 0 rfl) ?_
                refine lv_if_eq (tgt := 91) hx hb dX12_why_84 (by decide) (fun c_498 => ?_) (fun c_498 => ?_)
                · exact absurd c_498 (by decide)
                · refine lv_iconst (v := 0) hx hb dX12_why_87 (by decide) ?_
                  refine lv_goto (tgt := 98) hx hb dX12_why_88 (by decide) ?_
                  refine lv_iadd hx hb dX12_why_98 ?_
                  refine lv_topi (fun x_499 _ => ?_)
                  refine lv_iload_n hx hb dX12_why_99 rfl (lv_at hl 7 rfl) ?_
                  refine lv_icmp_ne (tgt := 179) hx hb dX12_why_100 (by decide) (fun c_500 => ?_) (fun c_500 => ?_)
                  · refine lv_iinc (v := (nI (k_352 + 1))) (lv' := [(7, .int (nI (k_352 + 1))), (8, .int 1), (6, .int (nI k_9)), (5, .int v_405), (4, .int v_406), (3, .int v_404), (0, .ref mo), (1, .int na), (2, .int nb)]) hx hb dX12_why_179 hl (k := 1) rfl (nI_add k_352 1) (by decide) rfl (fun ls hl => ?_)
                    refine lv_goto (tgt := 50) hx hb dX12_why_182 (by decide) ?_
                    exact ih_459 ((k_352 + 1), v_404, v_405, v_406, ls) ⟨by dsimp only; omega, lv_sub hl [0, 2, 3, 4, 5, 6, 7, 8] rfl⟩ (by dsimp only; omega)
                  · refine lv_iload hx hb dX12_why_103 (lv_at hl 0 rfl) ?_
                    refine lv_if_eq (tgt := 118) hx hb dX12_why_105 (by decide) (fun c_501 => ?_) (fun c_501 => ?_)
                    · exact absurd c_501 (by decide)
                    · refine lv_aload_n hx hb dX12_why_108 rfl (lv_at hl 6 rfl) ?_
                      refine lv_iload hx hb dX12_why_109 (lv_at hl 2 rfl) ?_
                      refine lv_iconst (v := 1) hx hb dX12_why_111 (by decide) ?_
                      have hPc_502 := hP.sub (ws' := [(mo, .inr (12, [.ref nw, .ref kp, .ref ik, .ref mr, .long la_, .long lb_, .ref mw, .long lc_, .int ti_, .int cb_, .long ld_, .long le_, .ref mq, .ref mz, .ref my, .int sm_, .ref mb, .int bl_, .int ta_, .int tl_, .int tk_, .int vl_, .ref mx, .ref mv])), (nw, .inl (cn_, 350, .inl fn))]) [0, 1] rfl
                      have hKc_503 := hK.sub (tys' := [(cn_, .int)]) [0] rfl
                      refine vp_callSi (va_Run.run (va_runV (As := [.int (nI k_9), .int 1]) (rest := []) ⟨hx, hb, hml, hown, hts⟩ (m_causeHas1 l dC dI mo nw kp ik mr la_ lb_ mw lc_ ti_ cb_ ld_ le_ mq mz my sm_ mb bl_ ta_ tl_ tk_ vl_ mx mv cn_ fn k_9 hOn (by omega)) (cwV 2 hts gX12_why_X12_causeHas rfl rfl rfl (by decide +kernel) ⟨Nat.le_of_ble_eq_true rfl, Nat.le_of_ble_eq_true rfl⟩) ⟨fun a U g mk q => by obtain ⟨q0, qP, qK⟩ := q; exact ⟨q0, qP, va_K.moved (u := U) (U := U.calling g mk a) (Vm.Alike.refl U.vm) qK⟩, va_recv hK hP (ci := 12) (q0 := 0) rfl rfl, fun U hU hW => ⟨rfl, by rw [hU]; exact hPc_502, va_K.moved hW.alike hKc_503⟩⟩ rfl rfl hl.1 rfl (lv_room (Nat.le_of_ble_eq_true rfl)) dX12_why_112 ⟨Nat.le_of_ble_eq_true rfl, Nat.le_of_ble_eq_true rfl⟩)) (fun r_504 hw_505 => ?_)
                      obtain ⟨j_506, hj_507, rfl⟩ := hw_505
                      refine lv_goto (tgt := 136) hx hb dX12_why_115 (by decide) ?_
                      refine lv_istore (lv' := [(9, .int (nI j_506)), (8, .int 1), (7, .int (nI k_352)), (6, .int (nI k_9)), (5, .int v_405), (4, .int v_406), (3, .int v_404), (0, .ref mo), (1, .int na), (2, .int nb)]) hx hb dX12_why_136 hl (by decide) rfl (fun ls hl => ?_)
                      refine lv_iinc (v := (v_404 + 1)) (lv' := [(3, .int (v_404 + 1)), (9, .int (nI j_506)), (8, .int 1), (7, .int (nI k_352)), (6, .int (nI k_9)), (5, .int v_405), (4, .int v_406), (0, .ref mo), (1, .int na), (2, .int nb)]) hx hb dX12_why_138 hl (k := 6) rfl rfl (by decide) rfl (fun ls hl => ?_)
                      refine lv_iload hx hb dX12_why_141 (lv_at hl 1 rfl) ?_
                      refine lv_iload hx hb dX12_why_143 (lv_at hl 5 rfl) ?_
                      refine lv_icmp_le (tgt := 159) hx hb dX12_why_145 (by decide) (fun c_508 => ?_) (fun c_508 => ?_)
                      · refine lv_iload hx hb dX12_why_159 (lv_at hl 6 rfl) ?_
                        refine lv_istore (lv' := [(4, .int v_406), (3, .int (v_404 + 1)), (9, .int (nI j_506)), (8, .int 1), (7, .int (nI k_352)), (6, .int (nI k_9)), (5, .int v_405), (0, .ref mo), (1, .int na), (2, .int nb)]) hx hb dX12_why_161 hl (by decide) rfl (fun ls hl => ?_)
                        refine lv_iload hx hb dX12_why_163 (lv_at hl 2 rfl) ?_
                        refine lv_iload hx hb dX12_why_165 (lv_at hl 6 rfl) ?_
                        refine lv_icmp_le (tgt := 175) hx hb dX12_why_167 (by decide) (fun c_509 => ?_) (fun c_509 => ?_)
                        · refine lv_iload hx hb dX12_why_175 (lv_at hl 6 rfl) ?_
                          refine lv_istore (lv' := [(5, .int v_405), (4, .int v_406), (3, .int (v_404 + 1)), (9, .int (nI j_506)), (8, .int 1), (7, .int (nI k_352)), (6, .int (nI k_9)), (0, .ref mo), (1, .int na), (2, .int nb)]) hx hb dX12_why_177 hl (by decide) rfl (fun ls hl => ?_)
                          refine lv_iinc (v := (nI (k_352 + 1))) (lv' := [(7, .int (nI (k_352 + 1))), (5, .int v_405), (4, .int v_406), (3, .int (v_404 + 1)), (9, .int (nI j_506)), (8, .int 1), (6, .int (nI k_9)), (0, .ref mo), (1, .int na), (2, .int nb)]) hx hb dX12_why_179 hl (k := 5) rfl (nI_add k_352 1) (by decide) rfl (fun ls hl => ?_)
                          refine lv_goto (tgt := 50) hx hb dX12_why_182 (by decide) ?_
                          exact ih_459 ((k_352 + 1), (v_404 + 1), v_405, v_406, ls) ⟨by dsimp only; omega, lv_sub hl [0, 6, 1, 2, 3, 7, 8, 9] rfl⟩ (by dsimp only; omega)
                        · refine lv_iload hx hb dX12_why_170 (lv_at hl 2 rfl) ?_
                          refine lv_goto (tgt := 177) hx hb dX12_why_172 (by decide) ?_
                          refine lv_istore (lv' := [(5, .int (nI j_506)), (4, .int v_406), (3, .int (v_404 + 1)), (9, .int (nI j_506)), (8, .int 1), (7, .int (nI k_352)), (6, .int (nI k_9)), (0, .ref mo), (1, .int na), (2, .int nb)]) hx hb dX12_why_177 hl (by decide) rfl (fun ls hl => ?_)
                          refine lv_iinc (v := (nI (k_352 + 1))) (lv' := [(7, .int (nI (k_352 + 1))), (5, .int (nI j_506)), (4, .int v_406), (3, .int (v_404 + 1)), (9, .int (nI j_506)), (8, .int 1), (6, .int (nI k_9)), (0, .ref mo), (1, .int na), (2, .int nb)]) hx hb dX12_why_179 hl (k := 5) rfl (nI_add k_352 1) (by decide) rfl (fun ls hl => ?_)
                          refine lv_goto (tgt := 50) hx hb dX12_why_182 (by decide) ?_
                          exact ih_459 ((k_352 + 1), (v_404 + 1), (nI j_506), v_406, ls) ⟨by dsimp only; omega, lv_sub hl [0, 6, 1, 2, 3, 7, 8, 9] rfl⟩ (by dsimp only; omega)
                      · refine lv_bipush (v := 10) hx hb dX12_why_148 (by decide) ?_
                        refine lv_iload hx hb dX12_why_150 (lv_at hl 4 rfl) ?_
                        refine lv_imul hx hb dX12_why_152 ?_
                        refine tz_i (nI (10 * k_9)) (pk_mul 10 k_9) ?_
                        refine lv_iload hx hb dX12_why_153 (lv_at hl 3 rfl) ?_
                        refine lv_iadd hx hb dX12_why_155 ?_
                        refine tz_i (nI ((10 * k_9) + k_352)) (nI_add (10 * k_9) k_352) ?_
                        refine lv_goto (tgt := 161) hx hb dX12_why_156 (by decide) ?_
                        refine lv_istore (lv' := [(4, .int (nI ((10 * k_9) + k_352))), (3, .int (v_404 + 1)), (9, .int (nI j_506)), (8, .int 1), (7, .int (nI k_352)), (6, .int (nI k_9)), (5, .int v_405), (0, .ref mo), (1, .int na), (2, .int nb)]) hx hb dX12_why_161 hl (by decide) rfl (fun ls hl => ?_)
                        refine lv_iload hx hb dX12_why_163 (lv_at hl 2 rfl) ?_
                        refine lv_iload hx hb dX12_why_165 (lv_at hl 6 rfl) ?_
                        refine lv_icmp_le (tgt := 175) hx hb dX12_why_167 (by decide) (fun c_510 => ?_) (fun c_510 => ?_)
                        · refine lv_iload hx hb dX12_why_175 (lv_at hl 6 rfl) ?_
                          refine lv_istore (lv' := [(5, .int v_405), (4, .int (nI ((10 * k_9) + k_352))), (3, .int (v_404 + 1)), (9, .int (nI j_506)), (8, .int 1), (7, .int (nI k_352)), (6, .int (nI k_9)), (0, .ref mo), (1, .int na), (2, .int nb)]) hx hb dX12_why_177 hl (by decide) rfl (fun ls hl => ?_)
                          refine lv_iinc (v := (nI (k_352 + 1))) (lv' := [(7, .int (nI (k_352 + 1))), (5, .int v_405), (4, .int (nI ((10 * k_9) + k_352))), (3, .int (v_404 + 1)), (9, .int (nI j_506)), (8, .int 1), (6, .int (nI k_9)), (0, .ref mo), (1, .int na), (2, .int nb)]) hx hb dX12_why_179 hl (k := 5) rfl (nI_add k_352 1) (by decide) rfl (fun ls hl => ?_)
                          refine lv_goto (tgt := 50) hx hb dX12_why_182 (by decide) ?_
                          exact ih_459 ((k_352 + 1), (v_404 + 1), v_405, (nI ((10 * k_9) + k_352)), ls) ⟨by dsimp only; omega, lv_sub hl [0, 6, 1, 2, 3, 7, 8, 9] rfl⟩ (by dsimp only; omega)
                        · refine lv_iload hx hb dX12_why_170 (lv_at hl 2 rfl) ?_
                          refine lv_goto (tgt := 177) hx hb dX12_why_172 (by decide) ?_
                          refine lv_istore (lv' := [(5, .int (nI j_506)), (4, .int (nI ((10 * k_9) + k_352))), (3, .int (v_404 + 1)), (9, .int (nI j_506)), (8, .int 1), (7, .int (nI k_352)), (6, .int (nI k_9)), (0, .ref mo), (1, .int na), (2, .int nb)]) hx hb dX12_why_177 hl (by decide) rfl (fun ls hl => ?_)
                          refine lv_iinc (v := (nI (k_352 + 1))) (lv' := [(7, .int (nI (k_352 + 1))), (5, .int (nI j_506)), (4, .int (nI ((10 * k_9) + k_352))), (3, .int (v_404 + 1)), (9, .int (nI j_506)), (8, .int 1), (6, .int (nI k_9)), (0, .ref mo), (1, .int na), (2, .int nb)]) hx hb dX12_why_179 hl (k := 5) rfl (nI_add k_352 1) (by decide) rfl (fun ls hl => ?_)
                          refine lv_goto (tgt := 50) hx hb dX12_why_182 (by decide) ?_
                          exact ih_459 ((k_352 + 1), (v_404 + 1), (nI j_506), (nI ((10 * k_9) + k_352)), ls) ⟨by dsimp only; omega, lv_sub hl [0, 6, 1, 2, 3, 7, 8, 9] rfl⟩ (by dsimp only; omega)
        · exact absurd c_8 (by decide)
      · obtain rfl : 0 = r_5 := (hw_6.trans (if_neg (fun z => hc_7 ((tz_in64 (by first | rfl | decide) rfl (by first | rfl | decide)).mp z)))).symm
        refine lv_if_ne (tgt := 24) hx hb dX12_why_14 (by decide) (fun c_511 => ?_) (fun c_511 => ?_)
        · exact absurd c_511 (by decide)
        · refine lv_aload_n hx hb dX12_why_17 rfl (lv_at hl 0 rfl) ?_
          refine lv_bipush (v := (-2)) hx hb dX12_why_18 (by decide) ?_
          have hPc := hP.sub (ws' := [(mo, .inr (12, [.ref nw, .ref kp, .ref ik, .ref mr, .long la_, .long lb_, .ref mw, .long lc_, .int ti_, .int cb_, .long ld_, .long le_, .ref mq, .ref mz, .ref my, .int sm_, .ref mb, .int bl_, .int ta_, .int tl_, .int tk_, .int vl_, .ref mx, .ref mv])), (mr, .inl (cr_, 3, .inl fr_))]) [0, 2] rfl
          have hDc := hD.sub (ws' := [(mo, .inr (12, [.ref nw, .ref kp, .ref ik, .ref mr, .long la_, .long lb_, .ref mw, .long lc_, .int ti_, .int cb_, .long ld_, .long le_, .ref mq, .ref mz, .ref my, .int sm_, .ref mb, .int bl_, .int ta_, .int tl_, .int tk_, .int vl_, .ref mx, .ref mv])), (mr, .inl (cr_, 3, .inl fr_))]) [0, 2] (by decide) rfl
          have hKc := hK.sub (tys' := [(cr_, .int)]) [1] rfl
          have hFc := va_free (wc := [(mo, .inr (12, [.ref nw, .ref kp, .ref ik, .ref mr, .long la_, .long lb_, .ref mw, .long lc_, .int ti_, .int cb_, .long ld_, .long le_, .ref mq, .ref mz, .ref my, .int sm_, .ref mb, .int bl_, .int ta_, .int tl_, .int tk_, .int vl_, .ref mx, .ref mv])), (mr, .inl (cr_, 3, .inl fr_))]) hD hS hA [0, 2] rfl
          refine va_calli (va_runV (As := [.int (-2)]) (rest := []) ⟨hx, hb, hml, hown, hts⟩ (m_bad l dC dI mo nw kp ik mr la_ lb_ mw lc_ ti_ cb_ ld_ le_ mq mz my sm_ mb bl_ ta_ tl_ tk_ vl_ mx mv cr_ fr_ (-2) s.heap.size) (cwV 1 hts gX12_why_X12_bad rfl rfl rfl (by decide +kernel) ⟨Nat.le_of_ble_eq_true rfl, Nat.le_of_ble_eq_true rfl⟩) ⟨fun a U g mk q => by obtain ⟨q0, q1, qP, qK, qD⟩ := q; exact ⟨q0, q1, qP, va_K.moved (u := U) (U := U.calling g mk a) (Vm.Alike.refl U.vm) qK, qD⟩, va_recv hK hP (ci := 12) (q0 := 0) rfl rfl, fun U hU hW => ⟨rfl, by rw [hU], by rw [hU]; exact hPc, va_K.moved hW.alike hKc, hDc.weaken (fun _ _ _ _ => trivial)⟩⟩ rfl rfl hl.1 rfl (lv_room (Nat.le_of_ble_eq_true rfl)) dX12_why_20 ⟨Nat.le_of_ble_eq_true rfl, Nat.le_of_ble_eq_true rfl⟩) hS (fun q _ h => hFc q h) hFc (fun r_512 u_ t H1 locs ht hvm hw_513 hB hz1 hk1 hS => ?_)
          obtain ⟨gr__514, hP1, hK1, hD1⟩ := hB
          rw [ht] at hP1
          have hK1 := va_K.moved hvm.symm hK1
          obtain ⟨hP, hD⟩ := va_join (wr := [(nw, .inl (cn_, 350, .inl fn))]) (w1 := [(mo, .inr (12, [.ref nw, .ref kp, .ref ik, .ref mr, .long la_, .long lb_, .ref mw, .long lc_, .int ti_, .int cb_, .long ld_, .long le_, .ref mq, .ref mz, .ref my, .int sm_, .ref mb, .int bl_, .int ta_, .int tl_, .int tk_, .int vl_, .ref mx, .ref mv])), (mr, .inl (cr_, 3, .inl gr__514))]) hP hD [0, 2] [1] rfl rfl (by decide) (by decide) hk1 hFc hP1 hD1
          generalize H1 = H at hP hS ⊢
          have hP : va_P (dC, dI) vwCl [(nw, .inl (cn_, 350, .inl fn)), (mo, .inr (12, [.ref nw, .ref kp, .ref ik, .ref mr, .long la_, .long lb_, .ref mw, .long lc_, .int ti_, .int cb_, .long ld_, .long le_, .ref mq, .ref mz, .ref my, .int sm_, .ref mb, .int bl_, .int ta_, .int tl_, .int tk_, .int vl_, .ref mx, .ref mv])), (mr, .inl (cr_, 3, .inl gr__514))] H := hP
          have hD : va_D A [(nw, .inl (cn_, 350, .inl fn)), (mo, .inr (12, [.ref nw, .ref kp, .ref ik, .ref mr, .long la_, .long lb_, .ref mw, .long lc_, .int ti_, .int cb_, .long ld_, .long le_, .ref mq, .ref mz, .ref my, .int sm_, .ref mb, .int bl_, .int ta_, .int tl_, .int tk_, .int vl_, .ref mx, .ref mv])), (mr, .inl (cr_, 3, .inl gr__514))] := hD
          obtain rfl : (-2) = r_512 := hw_513.symm
          have hP9 := hP.sub (ws' := [(mo, .inr (12, [.ref nw, .ref kp, .ref ik, .ref mr, .long la_, .long lb_, .ref mw, .long lc_, .int ti_, .int cb_, .long ld_, .long le_, .ref mq, .ref mz, .ref my, .int sm_, .ref mb, .int bl_, .int ta_, .int tl_, .int tk_, .int vl_, .ref mx, .ref mv])), (nw, .inl (cn_, 350, .inl fn)), (mr, .inl (cr_, 3, .inl gr__514))]) [1, 0, 2] rfl
          have hD9 := hD.sub (ws' := [(mo, .inr (12, [.ref nw, .ref kp, .ref ik, .ref mr, .long la_, .long lb_, .ref mw, .long lc_, .int ti_, .int cb_, .long ld_, .long le_, .ref mq, .ref mz, .ref my, .int sm_, .ref mb, .int bl_, .int ta_, .int tl_, .int tk_, .int vl_, .ref mx, .ref mv])), (nw, .inl (cn_, 350, .inl fn)), (mr, .inl (cr_, 3, .inl gr__514))]) [1, 0, 2] (by decide) rfl
          have hK9 := hK.sub (tys' := [(cn_, .int), (cr_, .int)]) [0, 1] rfl
          exact W.iret (v := (-2)) hx hb hr (fun t ht hW => ⟨⟨(-2), (), rfl, trivial, gr__514, by rw [ht]; exact hP9, va_K.moved hW.alike hK9, hD9⟩, hS.F ht⟩) hS.2.2 dX12_why_23
  · obtain rfl : 0 = r_1 := (hw_2.trans (if_neg hc_3)).symm
    refine lv_if_eq (tgt := 17) hx hb dX12_why_4 (by decide) (fun c_515 => ?_) (fun c_515 => ?_)
    · refine lv_aload_n hx hb dX12_why_17 rfl (lv_at hl 0 rfl) ?_
      refine lv_bipush (v := (-2)) hx hb dX12_why_18 (by decide) ?_
      have hPc := hP.sub (ws' := [(mo, .inr (12, [.ref nw, .ref kp, .ref ik, .ref mr, .long la_, .long lb_, .ref mw, .long lc_, .int ti_, .int cb_, .long ld_, .long le_, .ref mq, .ref mz, .ref my, .int sm_, .ref mb, .int bl_, .int ta_, .int tl_, .int tk_, .int vl_, .ref mx, .ref mv])), (mr, .inl (cr_, 3, .inl fr_))]) [0, 2] rfl
      have hDc := hD.sub (ws' := [(mo, .inr (12, [.ref nw, .ref kp, .ref ik, .ref mr, .long la_, .long lb_, .ref mw, .long lc_, .int ti_, .int cb_, .long ld_, .long le_, .ref mq, .ref mz, .ref my, .int sm_, .ref mb, .int bl_, .int ta_, .int tl_, .int tk_, .int vl_, .ref mx, .ref mv])), (mr, .inl (cr_, 3, .inl fr_))]) [0, 2] (by decide) rfl
      have hKc := hK.sub (tys' := [(cr_, .int)]) [1] rfl
      have hFc := va_free (wc := [(mo, .inr (12, [.ref nw, .ref kp, .ref ik, .ref mr, .long la_, .long lb_, .ref mw, .long lc_, .int ti_, .int cb_, .long ld_, .long le_, .ref mq, .ref mz, .ref my, .int sm_, .ref mb, .int bl_, .int ta_, .int tl_, .int tk_, .int vl_, .ref mx, .ref mv])), (mr, .inl (cr_, 3, .inl fr_))]) hD hS hA [0, 2] rfl
      refine va_calli (va_runV (As := [.int (-2)]) (rest := []) ⟨hx, hb, hml, hown, hts⟩ (m_bad l dC dI mo nw kp ik mr la_ lb_ mw lc_ ti_ cb_ ld_ le_ mq mz my sm_ mb bl_ ta_ tl_ tk_ vl_ mx mv cr_ fr_ (-2) s.heap.size) (cwV 1 hts gX12_why_X12_bad rfl rfl rfl (by decide +kernel) ⟨Nat.le_of_ble_eq_true rfl, Nat.le_of_ble_eq_true rfl⟩) ⟨fun a U g mk q => by obtain ⟨q0, q1, qP, qK, qD⟩ := q; exact ⟨q0, q1, qP, va_K.moved (u := U) (U := U.calling g mk a) (Vm.Alike.refl U.vm) qK, qD⟩, va_recv hK hP (ci := 12) (q0 := 0) rfl rfl, fun U hU hW => ⟨rfl, by rw [hU], by rw [hU]; exact hPc, va_K.moved hW.alike hKc, hDc.weaken (fun _ _ _ _ => trivial)⟩⟩ rfl rfl hl.1 rfl (lv_room (Nat.le_of_ble_eq_true rfl)) dX12_why_20 ⟨Nat.le_of_ble_eq_true rfl, Nat.le_of_ble_eq_true rfl⟩) hS (fun q _ h => hFc q h) hFc (fun r_516 u_ t H1 locs ht hvm hw_517 hB hz1 hk1 hS => ?_)
      obtain ⟨gr__518, hP1, hK1, hD1⟩ := hB
      rw [ht] at hP1
      have hK1 := va_K.moved hvm.symm hK1
      obtain ⟨hP, hD⟩ := va_join (wr := [(nw, .inl (cn_, 350, .inl fn))]) (w1 := [(mo, .inr (12, [.ref nw, .ref kp, .ref ik, .ref mr, .long la_, .long lb_, .ref mw, .long lc_, .int ti_, .int cb_, .long ld_, .long le_, .ref mq, .ref mz, .ref my, .int sm_, .ref mb, .int bl_, .int ta_, .int tl_, .int tk_, .int vl_, .ref mx, .ref mv])), (mr, .inl (cr_, 3, .inl gr__518))]) hP hD [0, 2] [1] rfl rfl (by decide) (by decide) hk1 hFc hP1 hD1
      generalize H1 = H at hP hS ⊢
      have hP : va_P (dC, dI) vwCl [(nw, .inl (cn_, 350, .inl fn)), (mo, .inr (12, [.ref nw, .ref kp, .ref ik, .ref mr, .long la_, .long lb_, .ref mw, .long lc_, .int ti_, .int cb_, .long ld_, .long le_, .ref mq, .ref mz, .ref my, .int sm_, .ref mb, .int bl_, .int ta_, .int tl_, .int tk_, .int vl_, .ref mx, .ref mv])), (mr, .inl (cr_, 3, .inl gr__518))] H := hP
      have hD : va_D A [(nw, .inl (cn_, 350, .inl fn)), (mo, .inr (12, [.ref nw, .ref kp, .ref ik, .ref mr, .long la_, .long lb_, .ref mw, .long lc_, .int ti_, .int cb_, .long ld_, .long le_, .ref mq, .ref mz, .ref my, .int sm_, .ref mb, .int bl_, .int ta_, .int tl_, .int tk_, .int vl_, .ref mx, .ref mv])), (mr, .inl (cr_, 3, .inl gr__518))] := hD
      obtain rfl : (-2) = r_516 := hw_517.symm
      have hP9 := hP.sub (ws' := [(mo, .inr (12, [.ref nw, .ref kp, .ref ik, .ref mr, .long la_, .long lb_, .ref mw, .long lc_, .int ti_, .int cb_, .long ld_, .long le_, .ref mq, .ref mz, .ref my, .int sm_, .ref mb, .int bl_, .int ta_, .int tl_, .int tk_, .int vl_, .ref mx, .ref mv])), (nw, .inl (cn_, 350, .inl fn)), (mr, .inl (cr_, 3, .inl gr__518))]) [1, 0, 2] rfl
      have hD9 := hD.sub (ws' := [(mo, .inr (12, [.ref nw, .ref kp, .ref ik, .ref mr, .long la_, .long lb_, .ref mw, .long lc_, .int ti_, .int cb_, .long ld_, .long le_, .ref mq, .ref mz, .ref my, .int sm_, .ref mb, .int bl_, .int ta_, .int tl_, .int tk_, .int vl_, .ref mx, .ref mv])), (nw, .inl (cn_, 350, .inl fn)), (mr, .inl (cr_, 3, .inl gr__518))]) [1, 0, 2] (by decide) rfl
      have hK9 := hK.sub (tys' := [(cn_, .int), (cr_, .int)]) [0, 1] rfl
      exact W.iret (v := (-2)) hx hb hr (fun t ht hW => ⟨⟨(-2), (), rfl, trivial, gr__518, by rw [ht]; exact hP9, va_K.moved hW.alike hK9, hD9⟩, hS.F ht⟩) hS.2.2 dX12_why_23
    · exact absurd c_515 (by decide)
set_option maxRecDepth 20000 in
theorem ggX12_writeOff_X12_isOff : GoodIn wsX12_writeOff wsX12_isOff := goodIn_r _ [6, 7, 8, 9, 10, 5, 11] (by decide +kernel) (by decide +kernel)
set_option maxRecDepth 20000 in
theorem gX12_writeOff_X12_isOff : GoodIn wsX12_writeOff (va_wsS RX12 212 yX12_isOff wsX12_isOff) := goodIn_app (goodIn_of _ (by decide +kernel)) ggX12_writeOff_X12_isOff
set_option maxRecDepth 20000 in
theorem ggX12_writeOff_X12_in : GoodIn wsX12_writeOff wsX12_in := goodIn_r _ [11] (by decide +kernel) (by decide +kernel)
set_option maxRecDepth 20000 in
theorem gX12_writeOff_X12_in : GoodIn wsX12_writeOff (va_wsS RX12 49 yX12_in wsX12_in) := goodIn_app (goodIn_of _ (by decide +kernel)) ggX12_writeOff_X12_in
set_option maxRecDepth 20000 in
theorem ggX12_writeOff_X12_causeHas : GoodIn wsX12_writeOff wsX12_causeHas := goodIn_r _ [20, 2, 21, 22, 23, 24, 25, 26, 27, 28, 29, 30, 31, 32, 33, 34, 35, 36, 37, 38, 39, 40, 41, 42, 43, 44] (by decide +kernel) (by decide +kernel)
set_option maxRecDepth 20000 in
theorem gX12_writeOff_X12_causeHas : GoodIn wsX12_writeOff (wsV RX12 215 RX12 yX12_causeHas wsX12_causeHas) := goodIn_app (goodIn_of _ (by decide +kernel)) ggX12_writeOff_X12_causeHas
set_option maxRecDepth 20000 in
theorem ggX12_writeOff_X12_bad : GoodIn wsX12_writeOff wsX12_bad := goodIn_r _ [15, 16, 21, 22, 23, 24, 25, 26, 27, 28, 29, 30, 31, 32, 33, 34, 35, 36, 37, 38, 39, 40, 41, 42, 43, 44] (by decide +kernel) (by decide +kernel)
set_option maxRecDepth 20000 in
theorem gX12_writeOff_X12_bad : GoodIn wsX12_writeOff (wsV RX12 61 RX12 yX12_bad wsX12_bad) := goodIn_app (goodIn_of _ (by decide +kernel)) ggX12_writeOff_X12_bad
theorem dX12_writeOff_0 : decode cX12_writeOff 0 = .ok (.iload_n 1, 1) := by decide +kernel
theorem dX12_writeOff_1 : decode cX12_writeOff 1 = .ok (.invokestatic 212, 3) := by decide +kernel
theorem dX12_writeOff_4 : decode cX12_writeOff 4 = .ok (.ifCond .eq 15, 3) := by decide +kernel
theorem dX12_writeOff_7 : decode cX12_writeOff 7 = .ok (.iload_n 2, 1) := by decide +kernel
theorem dX12_writeOff_8 : decode cX12_writeOff 8 = .ok (.i2l, 1) := by decide +kernel
theorem dX12_writeOff_9 : decode cX12_writeOff 9 = .ok (.lconst 0, 1) := by decide +kernel
theorem dX12_writeOff_10 : decode cX12_writeOff 10 = .ok (.ldc2_w 204, 3) := by decide +kernel
theorem dX12_writeOff_13 : decode cX12_writeOff 13 = .ok (.invokestatic 49, 3) := by decide +kernel
theorem dX12_writeOff_16 : decode cX12_writeOff 16 = .ok (.ifCond .ne 10, 3) := by decide +kernel
theorem dX12_writeOff_26 : decode cX12_writeOff 26 = .ok (.iload_n 1, 1) := by decide +kernel
theorem dX12_writeOff_27 : decode cX12_writeOff 27 = .ok (.ifCond .ge 8, 3) := by decide +kernel
theorem dX12_writeOff_35 : decode cX12_writeOff 35 = .ok (.iload_n 1, 1) := by decide +kernel
theorem dX12_writeOff_36 : decode cX12_writeOff 36 = .ok (.istore_n 3, 1) := by decide +kernel
theorem dX12_writeOff_37 : decode cX12_writeOff 37 = .ok (.iconst 1, 1) := by decide +kernel
theorem dX12_writeOff_38 : decode cX12_writeOff 38 = .ok (.istore 4, 2) := by decide +kernel
theorem dX12_writeOff_40 : decode cX12_writeOff 40 = .ok (.iconst 0, 1) := by decide +kernel
theorem dX12_writeOff_41 : decode cX12_writeOff 41 = .ok (.istore 5, 2) := by decide +kernel
theorem dX12_writeOff_43 : decode cX12_writeOff 43 = .ok (.iload 5, 2) := by decide +kernel
theorem dX12_writeOff_45 : decode cX12_writeOff 45 = .ok (.aload_n 0, 1) := by decide +kernel
theorem dX12_writeOff_46 : decode cX12_writeOff 46 = .ok (.getfield 7, 3) := by decide +kernel
theorem dX12_writeOff_49 : decode cX12_writeOff 49 = .ok (.iconst 3, 1) := by decide +kernel
theorem dX12_writeOff_50 : decode cX12_writeOff 50 = .ok (.iaload, 1) := by decide +kernel
theorem dX12_writeOff_51 : decode cX12_writeOff 51 = .ok (.if_icmp .ge 56, 3) := by decide +kernel
theorem dX12_writeOff_54 : decode cX12_writeOff 54 = .ok (.iload 4, 2) := by decide +kernel
theorem dX12_writeOff_56 : decode cX12_writeOff 56 = .ok (.ifCond .eq 42, 3) := by decide +kernel
theorem dX12_writeOff_59 : decode cX12_writeOff 59 = .ok (.aload_n 0, 1) := by decide +kernel
theorem dX12_writeOff_60 : decode cX12_writeOff 60 = .ok (.iload 5, 2) := by decide +kernel
theorem dX12_writeOff_62 : decode cX12_writeOff 62 = .ok (.iconst 0, 1) := by decide +kernel
theorem dX12_writeOff_63 : decode cX12_writeOff 63 = .ok (.invokevirtual 215, 3) := by decide +kernel
theorem dX12_writeOff_66 : decode cX12_writeOff 66 = .ok (.iload_n 1, 1) := by decide +kernel
theorem dX12_writeOff_67 : decode cX12_writeOff 67 = .ok (.if_icmp .ne 27, 3) := by decide +kernel
theorem dX12_writeOff_94 : decode cX12_writeOff 94 = .ok (.iconst 1, 1) := by decide +kernel
theorem dX12_writeOff_95 : decode cX12_writeOff 95 = .ok (.goto 4, 3) := by decide +kernel
theorem dX12_writeOff_99 : decode cX12_writeOff 99 = .ok (.istore 4, 2) := by decide +kernel
theorem dX12_writeOff_101 : decode cX12_writeOff 101 = .ok (.iinc 5 1, 3) := by decide +kernel
theorem dX12_writeOff_104 : decode cX12_writeOff 104 = .ok (.goto (-61), 3) := by decide +kernel
theorem dX12_writeOff_70 : decode cX12_writeOff 70 = .ok (.bipush 10, 2) := by decide +kernel
theorem dX12_writeOff_72 : decode cX12_writeOff 72 = .ok (.iload_n 2, 1) := by decide +kernel
theorem dX12_writeOff_73 : decode cX12_writeOff 73 = .ok (.imul, 1) := by decide +kernel
theorem dX12_writeOff_74 : decode cX12_writeOff 74 = .ok (.aload_n 0, 1) := by decide +kernel
theorem dX12_writeOff_75 : decode cX12_writeOff 75 = .ok (.iload 5, 2) := by decide +kernel
theorem dX12_writeOff_77 : decode cX12_writeOff 77 = .ok (.iconst 2, 1) := by decide +kernel
theorem dX12_writeOff_78 : decode cX12_writeOff 78 = .ok (.invokevirtual 215, 3) := by decide +kernel
theorem dX12_writeOff_81 : decode cX12_writeOff 81 = .ok (.imul, 1) := by decide +kernel
theorem dX12_writeOff_82 : decode cX12_writeOff 82 = .ok (.iload_n 3, 1) := by decide +kernel
theorem dX12_writeOff_83 : decode cX12_writeOff 83 = .ok (.aload_n 0, 1) := by decide +kernel
theorem dX12_writeOff_84 : decode cX12_writeOff 84 = .ok (.iload 5, 2) := by decide +kernel
theorem dX12_writeOff_86 : decode cX12_writeOff 86 = .ok (.iconst 3, 1) := by decide +kernel
theorem dX12_writeOff_87 : decode cX12_writeOff 87 = .ok (.invokevirtual 215, 3) := by decide +kernel
theorem dX12_writeOff_90 : decode cX12_writeOff 90 = .ok (.imul, 1) := by decide +kernel
theorem dX12_writeOff_91 : decode cX12_writeOff 91 = .ok (.if_icmp .lt 7, 3) := by decide +kernel
theorem dX12_writeOff_98 : decode cX12_writeOff 98 = .ok (.iconst 0, 1) := by decide +kernel
theorem dX12_writeOff_107 : decode cX12_writeOff 107 = .ok (.iload 4, 2) := by decide +kernel
theorem dX12_writeOff_109 : decode cX12_writeOff 109 = .ok (.ifCond .eq 7, 3) := by decide +kernel
theorem dX12_writeOff_116 : decode cX12_writeOff 116 = .ok (.iconst 0, 1) := by decide +kernel
theorem dX12_writeOff_117 : decode cX12_writeOff 117 = .ok (.ireturn, 1) := by decide +kernel
theorem dX12_writeOff_112 : decode cX12_writeOff 112 = .ok (.iconst 1, 1) := by decide +kernel
theorem dX12_writeOff_113 : decode cX12_writeOff 113 = .ok (.goto 4, 3) := by decide +kernel
theorem dX12_writeOff_30 : decode cX12_writeOff 30 = .ok (.iload_n 1, 1) := by decide +kernel
theorem dX12_writeOff_31 : decode cX12_writeOff 31 = .ok (.ineg, 1) := by decide +kernel
theorem dX12_writeOff_32 : decode cX12_writeOff 32 = .ok (.goto 4, 3) := by decide +kernel
theorem dX12_writeOff_19 : decode cX12_writeOff 19 = .ok (.aload_n 0, 1) := by decide +kernel
theorem dX12_writeOff_20 : decode cX12_writeOff 20 = .ok (.bipush (-2), 2) := by decide +kernel
theorem dX12_writeOff_22 : decode cX12_writeOff 22 = .ok (.invokevirtual 61, 3) := by decide +kernel
theorem dX12_writeOff_25 : decode cX12_writeOff 25 = .ok (.ireturn, 1) := by decide +kernel
set_option maxRecDepth 20000 in
theorem iw_m_writeOff_X12 : ∀ w ∈ wsX120, w ∈ wsX12_writeOff := by decide +kernel
set_option maxHeartbeats 4000000 in
set_option maxRecDepth 100000 in
theorem m_writeOff (l : Launch) (dC : Nat → ClassId) (dI : Nat → Nat → Nat) (mo : Nat) (nw : Nat) (kp : Nat) (ik : Nat) (mr : Nat) (la_ : Int64) (lb_ : Int64) (mw : Nat) (lc_ : Int64) (ti_ : Int32) (cb_ : Int32) (ld_ : Int64) (le_ : Int64) (mq : Nat) (mz : Nat) (my : Nat) (sm_ : Int32) (mb : Nat) (bl_ : Int32) (ta_ : Int32) (tl_ : Int32) (tk_ : Int32) (vl_ : Int32) (mx : Nat) (mv : Nat) (cn_ : ClassId) (fn : Nat → Int32) (cr_ : ClassId) (fr_ : Nat → Int32) (na : Int32) (nb : Int32) (sz : Nat) (hOn : tz_OK 350 fn) : Met l yX12_writeOff wsX12_writeOff ({ frames := 2, cells := 0, slots := 0, locals := 45 }) (va_Pc [.ref mo, .int na, .int nb] (fun U => U.heap.size = sz ∧ va_P (dC, dI) vwCl [(mo, .inr (12, [.ref nw, .ref kp, .ref ik, .ref mr, .long la_, .long lb_, .ref mw, .long lc_, .int ti_, .int cb_, .long ld_, .long le_, .ref mq, .ref mz, .ref my, .int sm_, .ref mb, .int bl_, .int ta_, .int tl_, .int tk_, .int vl_, .ref mx, .ref mv])), (nw, .inl (cn_, 350, .inl fn)), (mr, .inl (cr_, 3, .inl fr_))] U.heap ∧ va_K (dC, dI) vwCl [(cn_, .int), (cr_, .int)] U ∧ va_D (fun _ => True) [(mo, .inr (12, [.ref nw, .ref kp, .ref ik, .ref mr, .long la_, .long lb_, .ref mw, .long lc_, .int ti_, .int cb_, .long ld_, .long le_, .ref mq, .ref mz, .ref my, .int sm_, .ref mb, .int bl_, .int ta_, .int tl_, .int tk_, .int vl_, .ref mx, .ref mv])), (nw, .inl (cn_, 350, .inl fn)), (mr, .inl (cr_, 3, .inl fr_))])) (va_Qi (fun (r : Int32) (_ : Unit) => True) (fun _ t => ∃ (gr_ : Nat → Int32), va_P (dC, dI) vwCl [(mo, .inr (12, [.ref nw, .ref kp, .ref ik, .ref mr, .long la_, .long lb_, .ref mw, .long lc_, .int ti_, .int cb_, .long ld_, .long le_, .ref mq, .ref mz, .ref my, .int sm_, .ref mb, .int bl_, .int ta_, .int tl_, .int tk_, .int vl_, .ref mx, .ref mv])), (nw, .inl (cn_, 350, .inl fn)), (mr, .inl (cr_, 3, .inl gr_))] t.heap ∧ va_K (dC, dI) vwCl [(cn_, .int), (cr_, .int)] t ∧ va_D (va_A [(mo, .inr (12, [.ref nw, .ref kp, .ref ik, .ref mr, .long la_, .long lb_, .ref mw, .long lc_, .int ti_, .int cb_, .long ld_, .long le_, .ref mq, .ref mz, .ref my, .int sm_, .ref mb, .int bl_, .int ta_, .int tl_, .int tk_, .int vl_, .ref mx, .ref mv])), (nw, .inl (cn_, 350, .inl fn)), (mr, .inl (cr_, 3, .inl fr_))] sz) [(mo, .inr (12, [.ref nw, .ref kp, .ref ik, .ref mr, .long la_, .long lb_, .ref mw, .long lc_, .int ti_, .int cb_, .long ld_, .long le_, .ref mq, .ref mz, .ref my, .int sm_, .ref mb, .int bl_, .int ta_, .int tl_, .int tk_, .int vl_, .ref mx, .ref mv])), (nw, .inl (cn_, 350, .inl fn)), (mr, .inl (cr_, 3, .inl gr_))]) (va_A [(mo, .inr (12, [.ref nw, .ref kp, .ref ik, .ref mr, .long la_, .long lb_, .ref mw, .long lc_, .int ti_, .int cb_, .long ld_, .long le_, .ref mq, .ref mz, .ref my, .int sm_, .ref mb, .int bl_, .int ta_, .int tl_, .int tk_, .int vl_, .ref mx, .ref mv])), (nw, .inl (cn_, 350, .inl fn)), (mr, .inl (cr_, 3, .inl fr_))] sz)) 0 0 (va_A [(mo, .inr (12, [.ref nw, .ref kp, .ref ik, .ref mr, .long la_, .long lb_, .ref mw, .long lc_, .int ti_, .int cb_, .long ld_, .long le_, .ref mq, .ref mz, .ref my, .int sm_, .ref mb, .int bl_, .int ta_, .int tl_, .int tk_, .int vl_, .ref mx, .ref mv])), (nw, .inl (cn_, 350, .inl fn)), (mr, .inl (cr_, 3, .inl fr_))] sz) := by
  refine Met.ofW (cc := cX12_writeOff) (maxL := 6) (ret := (some .int)) (by decide) rfl ?_
  intro p e s m args below meth c s₁ B hml hv
  obtain ⟨rfl, hsz, hP, hK, hD0⟩ := hv
  have hx := B.exec
  have hb := B.bytes
  have hr := B.returns
  have hts := atoms_spec (ws := wsX12_writeOff) B.pre
  have hown : s.vm.findClass RX12 = some m.cls := findClass_of_methodNamed B.named
  have hlocks := B.notSynchronized
  subst hsz
  have hD := hD0.self (sz := s.heap.size)
  generalize hAe : va_A [(mo, .inr (12, [.ref nw, .ref kp, .ref ik, .ref mr, .long la_, .long lb_, .ref mw, .long lc_, .int ti_, .int cb_, .long ld_, .long le_, .ref mq, .ref mz, .ref my, .int sm_, .ref mb, .int bl_, .int ta_, .int tl_, .int tk_, .int vl_, .ref mx, .ref mv])), (nw, .inl (cn_, 350, .inl fn)), (mr, .inl (cr_, 3, .inl fr_))] s.heap.size = A at hD ⊢
  have hA : ∀ q : Nat, s.heap.size ≤ q → A q := fun q h => by rw [← hAe]; exact Or.inr h
  have hS : va_S A s.heap s.heap [] := va_S.rf
  have hP : va_P (dC, dI) vwCl [(mo, .inr (12, [.ref nw, .ref kp, .ref ik, .ref mr, .long la_, .long lb_, .ref mw, .long lc_, .int ti_, .int cb_, .long ld_, .long le_, .ref mq, .ref mz, .ref my, .int sm_, .ref mb, .int bl_, .int ta_, .int tl_, .int tk_, .int vl_, .ref mx, .ref mv])), (nw, .inl (cn_, 350, .inl fn)), (mr, .inl (cr_, 3, .inl fr_))] s.heap := hP
  have hl := lv_entry ([.ref mo, .int na, .int nb]) (n := 6) (Nat.le_of_ble_eq_true rfl)
  rw [lg_entry_eq]
  generalize (lg_sl ([.ref mo, .int na, .int nb]) ++ List.replicate (6 - (lg_sl ([.ref mo, .int na, .int nb])).length) Slot.unset).toArray = ls at hl ⊢
  have hl : lv_has ls 6 [(0, .ref mo), (1, .int na), (2, .int nb)] := hl
  refine lv_iload_n hx hb dX12_writeOff_0 rfl (lv_at hl 1 rfl) ?_
  refine vp_callSi (va_Run.run (va_runS (As := [.int na]) (rest := []) ⟨hx, hb, hml, hown, hts⟩ (m_isOff l dC dI na) (va_cwS 1 hts gX12_writeOff_X12_isOff rfl rfl rfl (by decide +kernel) ⟨Nat.le_of_ble_eq_true rfl, Nat.le_of_ble_eq_true rfl⟩) ⟨fun a U g mk q => ⟨q.1, trivial⟩, fun U hU hW => ⟨rfl, trivial⟩⟩ rfl rfl hl.1 rfl (lv_room (Nat.le_of_ble_eq_true rfl)) dX12_writeOff_1 ⟨Nat.le_of_ble_eq_true rfl, Nat.le_of_ble_eq_true rfl⟩)) (fun r_1 hw_2 => ?_)
  by_cases hc_3 : (-198) ≤ na ∧ na ≤ 198
  · obtain rfl : 1 = r_1 := (hw_2.trans (if_pos hc_3)).symm
    refine lv_if_eq (tgt := 19) hx hb dX12_writeOff_4 (by decide) (fun c_4 => ?_) (fun c_4 => ?_)
    · exact absurd c_4 (by decide)
    · refine lv_iload_n hx hb dX12_writeOff_7 rfl (lv_at hl 2 rfl) ?_
      refine lv_i2l (v := nb.toInt64) hx hb dX12_writeOff_8 rfl ?_
      refine lv_lconst (v := 0) hx hb dX12_writeOff_9 (by decide) ?_
      refine lv_ldc2 hx hb hown (hts (.constantLong RX12 204 (99)) (by decide +kernel)) dX12_writeOff_10 ?_
      refine vp_callSi (va_Run.run (va_runS (As := [.long nb.toInt64, .long 0, .long 99]) (rest := []) ⟨hx, hb, hml, hown, hts⟩ (m_in l dC dI nb.toInt64 0 99) (va_cwS 3 hts gX12_writeOff_X12_in rfl rfl rfl (by decide +kernel) ⟨Nat.le_of_ble_eq_true rfl, Nat.le_of_ble_eq_true rfl⟩) ⟨fun a U g mk q => ⟨q.1, trivial⟩, fun U hU hW => ⟨rfl, trivial⟩⟩ rfl rfl hl.1 rfl (lv_room (Nat.le_of_ble_eq_true rfl)) dX12_writeOff_13 ⟨Nat.le_of_ble_eq_true rfl, Nat.le_of_ble_eq_true rfl⟩)) (fun r_5 hw_6 => ?_)
      by_cases hc_7 : 0 ≤ nb ∧ nb ≤ 99
      · obtain rfl : 1 = r_5 := (hw_6.trans (if_pos ((tz_in64 (by first | rfl | decide) rfl (by first | rfl | decide)).mpr hc_7))).symm
        refine lv_if_ne (tgt := 26) hx hb dX12_writeOff_16 (by decide) (fun c_8 => ?_) (fun c_8 => ?_)
        · refine lv_iload_n hx hb dX12_writeOff_26 rfl (lv_at hl 1 rfl) ?_
          refine lv_if_ge (tgt := 35) hx hb dX12_writeOff_27 (by decide) (fun c_9 => ?_) (fun c_9 => ?_)
          · refine lv_iload_n hx hb dX12_writeOff_35 rfl (lv_at hl 1 rfl) ?_
            refine lv_istore_n (lv' := [(3, .int na), (0, .ref mo), (1, .int na), (2, .int nb)]) hx hb dX12_writeOff_36 rfl hl (by decide) rfl (fun ls hl => ?_)
            refine lv_iconst (v := 1) hx hb dX12_writeOff_37 (by decide) ?_
            refine lv_istore (lv' := [(4, .int 1), (3, .int na), (0, .ref mo), (1, .int na), (2, .int nb)]) hx hb dX12_writeOff_38 hl (by decide) rfl (fun ls hl => ?_)
            refine lv_iconst (v := 0) hx hb dX12_writeOff_40 (by decide) ?_
            refine lv_istore (lv' := [(5, .int 0), (4, .int 1), (3, .int na), (0, .ref mo), (1, .int na), (2, .int nb)]) hx hb dX12_writeOff_41 hl (by decide) rfl (fun ls hl => ?_)
            refine tz_while (σ := Nat × Int32 × Array Slot) (fun x => W p l e _ s m _ below meth c _ _ _ _ _ (F0 m 43 x.2.2 [])) (fun x => x.1 ≤ 6 ∧ lv_has x.2.2 6 [(5, .int (nI x.1)), (4, .int x.2.1), (3, .int na), (0, .ref mo), (1, .int na), (2, .int nb)]) (fun x => 6 - x.1) ?_ (0, 1, ls) ⟨by (try dsimp only); omega, hl⟩
            rintro ⟨k_10, v_35, ls⟩ ⟨hi_60_0, hl⟩ ih_61
            dsimp only at hi_60_0 hl ih_61 ⊢
            refine lv_iload hx hb dX12_writeOff_43 (lv_at hl 0 rfl) ?_
            refine lv_aload_n hx hb dX12_writeOff_45 rfl (lv_at hl 3 rfl) ?_
            refine va_get (D := (dC, dI)) (ci := 12) (v := .ref nw) (C := RX12) (T := TX12) (N := 24) hx hb hts iw_m_writeOff_X12 hown hK hP 0 rfl rfl 0 (by decide) (hts (.fieldLink RX12 7 "ThriceCountedModel" "now" "[I") (by decide +kernel)) (fun _ h9 => h9) rfl dX12_writeOff_46 ?_
            refine lv_iconst (v := 3) hx hb dX12_writeOff_49 (by decide) ?_
            refine va_iald hx hb hK hP 1 0 rfl rfl (show ¬ ((3 : Int32) < 0 ∨ 350 ≤ (3 : Int32).toNatClampNeg) by decide) dX12_writeOff_50 ?_
            obtain ⟨j_62, hj_63, ej_64⟩ := hOn.nat (K := 3) (n := 6) (by omega) (show tz_b 3 = (0, 6) from by decide)
            refine tz_i (nI j_62) ej_64 ?_
            refine lv_icmp_ge (tgt := 107) hx hb dX12_writeOff_51 (by decide) (fun c_65 => ?_) (fun c_65 => ?_)
            · have hn_66 : j_62 ≤ k_10 := (nI_leI (a := j_62) (b := k_10) (by omega) (by omega)).mp c_65
              refine lv_iload hx hb dX12_writeOff_107 (lv_at hl 1 rfl) ?_
              refine lv_if_eq (tgt := 116) hx hb dX12_writeOff_109 (by decide) (fun c_67 => ?_) (fun c_67 => ?_)
              · refine lv_iconst (v := 0) hx hb dX12_writeOff_116 (by decide) ?_
                have hP9 := hP.sub (ws' := [(mo, .inr (12, [.ref nw, .ref kp, .ref ik, .ref mr, .long la_, .long lb_, .ref mw, .long lc_, .int ti_, .int cb_, .long ld_, .long le_, .ref mq, .ref mz, .ref my, .int sm_, .ref mb, .int bl_, .int ta_, .int tl_, .int tk_, .int vl_, .ref mx, .ref mv])), (nw, .inl (cn_, 350, .inl fn)), (mr, .inl (cr_, 3, .inl fr_))]) [0, 1, 2] rfl
                have hD9 := hD.sub (ws' := [(mo, .inr (12, [.ref nw, .ref kp, .ref ik, .ref mr, .long la_, .long lb_, .ref mw, .long lc_, .int ti_, .int cb_, .long ld_, .long le_, .ref mq, .ref mz, .ref my, .int sm_, .ref mb, .int bl_, .int ta_, .int tl_, .int tk_, .int vl_, .ref mx, .ref mv])), (nw, .inl (cn_, 350, .inl fn)), (mr, .inl (cr_, 3, .inl fr_))]) [0, 1, 2] (by decide) rfl
                have hK9 := hK.sub (tys' := [(cn_, .int), (cr_, .int)]) [0, 1] rfl
                exact W.iret (v := 0) hx hb hr (fun t ht hW => ⟨⟨0, (), rfl, trivial, fr_, by rw [ht]; exact hP9, va_K.moved hW.alike hK9, hD9⟩, hS.F ht⟩) hS.2.2 dX12_writeOff_117
              · refine lv_iconst (v := 1) hx hb dX12_writeOff_112 (by decide) ?_
                refine lv_goto (tgt := 117) hx hb dX12_writeOff_113 (by decide) ?_
                have hP9 := hP.sub (ws' := [(mo, .inr (12, [.ref nw, .ref kp, .ref ik, .ref mr, .long la_, .long lb_, .ref mw, .long lc_, .int ti_, .int cb_, .long ld_, .long le_, .ref mq, .ref mz, .ref my, .int sm_, .ref mb, .int bl_, .int ta_, .int tl_, .int tk_, .int vl_, .ref mx, .ref mv])), (nw, .inl (cn_, 350, .inl fn)), (mr, .inl (cr_, 3, .inl fr_))]) [0, 1, 2] rfl
                have hD9 := hD.sub (ws' := [(mo, .inr (12, [.ref nw, .ref kp, .ref ik, .ref mr, .long la_, .long lb_, .ref mw, .long lc_, .int ti_, .int cb_, .long ld_, .long le_, .ref mq, .ref mz, .ref my, .int sm_, .ref mb, .int bl_, .int ta_, .int tl_, .int tk_, .int vl_, .ref mx, .ref mv])), (nw, .inl (cn_, 350, .inl fn)), (mr, .inl (cr_, 3, .inl fr_))]) [0, 1, 2] (by decide) rfl
                have hK9 := hK.sub (tys' := [(cn_, .int), (cr_, .int)]) [0, 1] rfl
                exact W.iret (v := 1) hx hb hr (fun t ht hW => ⟨⟨1, (), rfl, trivial, fr_, by rw [ht]; exact hP9, va_K.moved hW.alike hK9, hD9⟩, hS.F ht⟩) hS.2.2 dX12_writeOff_117
            · have hn_68 : ¬ j_62 ≤ k_10 := fun q => c_65 ((nI_leI (a := j_62) (b := k_10) (by omega) (by omega)).mpr q)
              refine lv_iload hx hb dX12_writeOff_54 (lv_at hl 1 rfl) ?_
              refine lv_if_eq (tgt := 98) hx hb dX12_writeOff_56 (by decide) (fun c_69 => ?_) (fun c_69 => ?_)
              · refine lv_iconst (v := 0) hx hb dX12_writeOff_98 (by decide) ?_
                refine lv_istore (lv' := [(4, .int 0), (5, .int (nI k_10)), (3, .int na), (0, .ref mo), (1, .int na), (2, .int nb)]) hx hb dX12_writeOff_99 hl (by decide) rfl (fun ls hl => ?_)
                refine lv_iinc (v := (nI (k_10 + 1))) (lv' := [(5, .int (nI (k_10 + 1))), (4, .int 0), (3, .int na), (0, .ref mo), (1, .int na), (2, .int nb)]) hx hb dX12_writeOff_101 hl (k := 1) rfl (nI_add k_10 1) (by decide) rfl (fun ls hl => ?_)
                refine lv_goto (tgt := 43) hx hb dX12_writeOff_104 (by decide) ?_
                exact ih_61 ((k_10 + 1), 0, ls) ⟨by dsimp only; omega, lv_sub hl [0, 1, 2, 3, 4, 5] rfl⟩ (by dsimp only; omega)
              · refine lv_aload_n hx hb dX12_writeOff_59 rfl (lv_at hl 3 rfl) ?_
                refine lv_iload hx hb dX12_writeOff_60 (lv_at hl 0 rfl) ?_
                refine lv_iconst (v := 0) hx hb dX12_writeOff_62 (by decide) ?_
                have hPc_70 := hP.sub (ws' := [(mo, .inr (12, [.ref nw, .ref kp, .ref ik, .ref mr, .long la_, .long lb_, .ref mw, .long lc_, .int ti_, .int cb_, .long ld_, .long le_, .ref mq, .ref mz, .ref my, .int sm_, .ref mb, .int bl_, .int ta_, .int tl_, .int tk_, .int vl_, .ref mx, .ref mv])), (nw, .inl (cn_, 350, .inl fn))]) [0, 1] rfl
                have hKc_71 := hK.sub (tys' := [(cn_, .int)]) [0] rfl
                refine vp_callSi (va_Run.run (va_runV (As := [.int (nI k_10), .int 0]) (rest := []) ⟨hx, hb, hml, hown, hts⟩ (m_causeHas0 l dC dI mo nw kp ik mr la_ lb_ mw lc_ ti_ cb_ ld_ le_ mq mz my sm_ mb bl_ ta_ tl_ tk_ vl_ mx mv cn_ fn k_10 hOn (by omega)) (cwV 2 hts gX12_writeOff_X12_causeHas rfl rfl rfl (by decide +kernel) ⟨Nat.le_of_ble_eq_true rfl, Nat.le_of_ble_eq_true rfl⟩) ⟨fun a U g mk q => by obtain ⟨q0, qP, qK⟩ := q; exact ⟨q0, qP, va_K.moved (u := U) (U := U.calling g mk a) (Vm.Alike.refl U.vm) qK⟩, va_recv hK hP (ci := 12) (q0 := 0) rfl rfl, fun U hU hW => ⟨rfl, by rw [hU]; exact hPc_70, va_K.moved hW.alike hKc_71⟩⟩ rfl rfl hl.1 rfl (lv_room (Nat.le_of_ble_eq_true rfl)) dX12_writeOff_63 ⟨Nat.le_of_ble_eq_true rfl, Nat.le_of_ble_eq_true rfl⟩)) (fun r_72 hw_73 => ?_)
                refine lv_iload_n hx hb dX12_writeOff_66 rfl (lv_at hl 4 rfl) ?_
                refine lv_icmp_ne (tgt := 94) hx hb dX12_writeOff_67 (by decide) (fun c_74 => ?_) (fun c_74 => ?_)
                · refine lv_iconst (v := 1) hx hb dX12_writeOff_94 (by decide) ?_
                  refine lv_goto (tgt := 99) hx hb dX12_writeOff_95 (by decide) ?_
                  refine lv_istore (lv' := [(4, .int 1), (5, .int (nI k_10)), (3, .int na), (0, .ref mo), (1, .int na), (2, .int nb)]) hx hb dX12_writeOff_99 hl (by decide) rfl (fun ls hl => ?_)
                  refine lv_iinc (v := (nI (k_10 + 1))) (lv' := [(5, .int (nI (k_10 + 1))), (4, .int 1), (3, .int na), (0, .ref mo), (1, .int na), (2, .int nb)]) hx hb dX12_writeOff_101 hl (k := 1) rfl (nI_add k_10 1) (by decide) rfl (fun ls hl => ?_)
                  refine lv_goto (tgt := 43) hx hb dX12_writeOff_104 (by decide) ?_
                  exact ih_61 ((k_10 + 1), 1, ls) ⟨by dsimp only; omega, lv_sub hl [0, 1, 2, 3, 4, 5] rfl⟩ (by dsimp only; omega)
                · refine lv_bipush (v := 10) hx hb dX12_writeOff_70 (by decide) ?_
                  refine lv_iload_n hx hb dX12_writeOff_72 rfl (lv_at hl 5 rfl) ?_
                  refine lv_imul hx hb dX12_writeOff_73 ?_
                  refine lv_topi (fun x_75 _ => ?_)
                  refine lv_aload_n hx hb dX12_writeOff_74 rfl (lv_at hl 3 rfl) ?_
                  refine lv_iload hx hb dX12_writeOff_75 (lv_at hl 0 rfl) ?_
                  refine lv_iconst (v := 2) hx hb dX12_writeOff_77 (by decide) ?_
                  have hPc_76 := hP.sub (ws' := [(mo, .inr (12, [.ref nw, .ref kp, .ref ik, .ref mr, .long la_, .long lb_, .ref mw, .long lc_, .int ti_, .int cb_, .long ld_, .long le_, .ref mq, .ref mz, .ref my, .int sm_, .ref mb, .int bl_, .int ta_, .int tl_, .int tk_, .int vl_, .ref mx, .ref mv])), (nw, .inl (cn_, 350, .inl fn))]) [0, 1] rfl
                  have hKc_77 := hK.sub (tys' := [(cn_, .int)]) [0] rfl
                  refine vp_callSi (va_Run.run (va_runV (As := [.int (nI k_10), .int 2]) (rest := [.int x_75]) ⟨hx, hb, hml, hown, hts⟩ (m_causeHas2 l dC dI mo nw kp ik mr la_ lb_ mw lc_ ti_ cb_ ld_ le_ mq mz my sm_ mb bl_ ta_ tl_ tk_ vl_ mx mv cn_ fn k_10 hOn (by omega)) (cwV 2 hts gX12_writeOff_X12_causeHas rfl rfl rfl (by decide +kernel) ⟨Nat.le_of_ble_eq_true rfl, Nat.le_of_ble_eq_true rfl⟩) ⟨fun a U g mk q => by obtain ⟨q0, qP, qK⟩ := q; exact ⟨q0, qP, va_K.moved (u := U) (U := U.calling g mk a) (Vm.Alike.refl U.vm) qK⟩, va_recv hK hP (ci := 12) (q0 := 0) rfl rfl, fun U hU hW => ⟨rfl, by rw [hU]; exact hPc_76, va_K.moved hW.alike hKc_77⟩⟩ rfl rfl hl.1 rfl (lv_room (Nat.le_of_ble_eq_true rfl)) dX12_writeOff_78 ⟨Nat.le_of_ble_eq_true rfl, Nat.le_of_ble_eq_true rfl⟩)) (fun r_78 hw_79 => ?_)
                  refine lv_imul hx hb dX12_writeOff_81 ?_
                  refine lv_topi (fun x_80 _ => ?_)
                  refine lv_iload_n hx hb dX12_writeOff_82 rfl (lv_at hl 2 rfl) ?_
                  refine lv_aload_n hx hb dX12_writeOff_83 rfl (lv_at hl 3 rfl) ?_
                  refine lv_iload hx hb dX12_writeOff_84 (lv_at hl 0 rfl) ?_
                  refine lv_iconst (v := 3) hx hb dX12_writeOff_86 (by decide) ?_
                  have hPc_81 := hP.sub (ws' := [(mo, .inr (12, [.ref nw, .ref kp, .ref ik, .ref mr, .long la_, .long lb_, .ref mw, .long lc_, .int ti_, .int cb_, .long ld_, .long le_, .ref mq, .ref mz, .ref my, .int sm_, .ref mb, .int bl_, .int ta_, .int tl_, .int tk_, .int vl_, .ref mx, .ref mv])), (nw, .inl (cn_, 350, .inl fn))]) [0, 1] rfl
                  have hKc_82 := hK.sub (tys' := [(cn_, .int)]) [0] rfl
                  refine vp_callSi (va_Run.run (va_runV (As := [.int (nI k_10), .int 3]) (rest := [.int na, .int x_80]) ⟨hx, hb, hml, hown, hts⟩ (m_causeHas3 l dC dI mo nw kp ik mr la_ lb_ mw lc_ ti_ cb_ ld_ le_ mq mz my sm_ mb bl_ ta_ tl_ tk_ vl_ mx mv cn_ fn k_10 hOn (by omega)) (cwV 2 hts gX12_writeOff_X12_causeHas rfl rfl rfl (by decide +kernel) ⟨Nat.le_of_ble_eq_true rfl, Nat.le_of_ble_eq_true rfl⟩) ⟨fun a U g mk q => by obtain ⟨q0, qP, qK⟩ := q; exact ⟨q0, qP, va_K.moved (u := U) (U := U.calling g mk a) (Vm.Alike.refl U.vm) qK⟩, va_recv hK hP (ci := 12) (q0 := 0) rfl rfl, fun U hU hW => ⟨rfl, by rw [hU]; exact hPc_81, va_K.moved hW.alike hKc_82⟩⟩ rfl rfl hl.1 rfl (lv_room (Nat.le_of_ble_eq_true rfl)) dX12_writeOff_87 ⟨Nat.le_of_ble_eq_true rfl, Nat.le_of_ble_eq_true rfl⟩)) (fun r_83 hw_84 => ?_)
                  refine lv_imul hx hb dX12_writeOff_90 ?_
                  refine lv_topi (fun x_85 _ => ?_)
                  refine lv_icmp_lt (tgt := 98) hx hb dX12_writeOff_91 (by decide) (fun c_86 => ?_) (fun c_86 => ?_)
                  · refine lv_iconst (v := 0) hx hb dX12_writeOff_98 (by decide) ?_
                    refine lv_istore (lv' := [(4, .int 0), (5, .int (nI k_10)), (3, .int na), (0, .ref mo), (1, .int na), (2, .int nb)]) hx hb dX12_writeOff_99 hl (by decide) rfl (fun ls hl => ?_)
                    refine lv_iinc (v := (nI (k_10 + 1))) (lv' := [(5, .int (nI (k_10 + 1))), (4, .int 0), (3, .int na), (0, .ref mo), (1, .int na), (2, .int nb)]) hx hb dX12_writeOff_101 hl (k := 1) rfl (nI_add k_10 1) (by decide) rfl (fun ls hl => ?_)
                    refine lv_goto (tgt := 43) hx hb dX12_writeOff_104 (by decide) ?_
                    exact ih_61 ((k_10 + 1), 0, ls) ⟨by dsimp only; omega, lv_sub hl [0, 1, 2, 3, 4, 5] rfl⟩ (by dsimp only; omega)
                  · refine lv_iconst (v := 1) hx hb dX12_writeOff_94 (by decide) ?_
                    refine lv_goto (tgt := 99) hx hb dX12_writeOff_95 (by decide) ?_
                    refine lv_istore (lv' := [(4, .int 1), (5, .int (nI k_10)), (3, .int na), (0, .ref mo), (1, .int na), (2, .int nb)]) hx hb dX12_writeOff_99 hl (by decide) rfl (fun ls hl => ?_)
                    refine lv_iinc (v := (nI (k_10 + 1))) (lv' := [(5, .int (nI (k_10 + 1))), (4, .int 1), (3, .int na), (0, .ref mo), (1, .int na), (2, .int nb)]) hx hb dX12_writeOff_101 hl (k := 1) rfl (nI_add k_10 1) (by decide) rfl (fun ls hl => ?_)
                    refine lv_goto (tgt := 43) hx hb dX12_writeOff_104 (by decide) ?_
                    exact ih_61 ((k_10 + 1), 1, ls) ⟨by dsimp only; omega, lv_sub hl [0, 1, 2, 3, 4, 5] rfl⟩ (by dsimp only; omega)
          · refine lv_iload_n hx hb dX12_writeOff_30 rfl (lv_at hl 1 rfl) ?_
            refine lv_ineg hx hb dX12_writeOff_31 ?_
            refine lv_topi (fun x_87 _ => ?_)
            refine lv_goto (tgt := 36) hx hb dX12_writeOff_32 (by decide) ?_
            refine lv_istore_n (lv' := [(3, .int x_87), (0, .ref mo), (1, .int na), (2, .int nb)]) hx hb dX12_writeOff_36 rfl hl (by decide) rfl (fun ls hl => ?_)
            refine lv_iconst (v := 1) hx hb dX12_writeOff_37 (by decide) ?_
            refine lv_istore (lv' := [(4, .int 1), (3, .int x_87), (0, .ref mo), (1, .int na), (2, .int nb)]) hx hb dX12_writeOff_38 hl (by decide) rfl (fun ls hl => ?_)
            refine lv_iconst (v := 0) hx hb dX12_writeOff_40 (by decide) ?_
            refine lv_istore (lv' := [(5, .int 0), (4, .int 1), (3, .int x_87), (0, .ref mo), (1, .int na), (2, .int nb)]) hx hb dX12_writeOff_41 hl (by decide) rfl (fun ls hl => ?_)
            refine tz_while (σ := Nat × Int32 × Array Slot) (fun x => W p l e _ s m _ below meth c _ _ _ _ _ (F0 m 43 x.2.2 [])) (fun x => x.1 ≤ 6 ∧ lv_has x.2.2 6 [(5, .int (nI x.1)), (4, .int x.2.1), (3, .int x_87), (0, .ref mo), (1, .int na), (2, .int nb)]) (fun x => 6 - x.1) ?_ (0, 1, ls) ⟨by (try dsimp only); omega, hl⟩
            rintro ⟨k_88, v_113, ls⟩ ⟨hi_138_0, hl⟩ ih_139
            dsimp only at hi_138_0 hl ih_139 ⊢
            refine lv_iload hx hb dX12_writeOff_43 (lv_at hl 0 rfl) ?_
            refine lv_aload_n hx hb dX12_writeOff_45 rfl (lv_at hl 3 rfl) ?_
            refine va_get (D := (dC, dI)) (ci := 12) (v := .ref nw) (C := RX12) (T := TX12) (N := 24) hx hb hts iw_m_writeOff_X12 hown hK hP 0 rfl rfl 0 (by decide) (hts (.fieldLink RX12 7 "ThriceCountedModel" "now" "[I") (by decide +kernel)) (fun _ h9 => h9) rfl dX12_writeOff_46 ?_
            refine lv_iconst (v := 3) hx hb dX12_writeOff_49 (by decide) ?_
            refine va_iald hx hb hK hP 1 0 rfl rfl (show ¬ ((3 : Int32) < 0 ∨ 350 ≤ (3 : Int32).toNatClampNeg) by decide) dX12_writeOff_50 ?_
            obtain ⟨j_140, hj_141, ej_142⟩ := hOn.nat (K := 3) (n := 6) (by omega) (show tz_b 3 = (0, 6) from by decide)
            refine tz_i (nI j_140) ej_142 ?_
            refine lv_icmp_ge (tgt := 107) hx hb dX12_writeOff_51 (by decide) (fun c_143 => ?_) (fun c_143 => ?_)
            · have hn_144 : j_140 ≤ k_88 := (nI_leI (a := j_140) (b := k_88) (by omega) (by omega)).mp c_143
              refine lv_iload hx hb dX12_writeOff_107 (lv_at hl 1 rfl) ?_
              refine lv_if_eq (tgt := 116) hx hb dX12_writeOff_109 (by decide) (fun c_145 => ?_) (fun c_145 => ?_)
              · refine lv_iconst (v := 0) hx hb dX12_writeOff_116 (by decide) ?_
                have hP9 := hP.sub (ws' := [(mo, .inr (12, [.ref nw, .ref kp, .ref ik, .ref mr, .long la_, .long lb_, .ref mw, .long lc_, .int ti_, .int cb_, .long ld_, .long le_, .ref mq, .ref mz, .ref my, .int sm_, .ref mb, .int bl_, .int ta_, .int tl_, .int tk_, .int vl_, .ref mx, .ref mv])), (nw, .inl (cn_, 350, .inl fn)), (mr, .inl (cr_, 3, .inl fr_))]) [0, 1, 2] rfl
                have hD9 := hD.sub (ws' := [(mo, .inr (12, [.ref nw, .ref kp, .ref ik, .ref mr, .long la_, .long lb_, .ref mw, .long lc_, .int ti_, .int cb_, .long ld_, .long le_, .ref mq, .ref mz, .ref my, .int sm_, .ref mb, .int bl_, .int ta_, .int tl_, .int tk_, .int vl_, .ref mx, .ref mv])), (nw, .inl (cn_, 350, .inl fn)), (mr, .inl (cr_, 3, .inl fr_))]) [0, 1, 2] (by decide) rfl
                have hK9 := hK.sub (tys' := [(cn_, .int), (cr_, .int)]) [0, 1] rfl
                exact W.iret (v := 0) hx hb hr (fun t ht hW => ⟨⟨0, (), rfl, trivial, fr_, by rw [ht]; exact hP9, va_K.moved hW.alike hK9, hD9⟩, hS.F ht⟩) hS.2.2 dX12_writeOff_117
              · refine lv_iconst (v := 1) hx hb dX12_writeOff_112 (by decide) ?_
                refine lv_goto (tgt := 117) hx hb dX12_writeOff_113 (by decide) ?_
                have hP9 := hP.sub (ws' := [(mo, .inr (12, [.ref nw, .ref kp, .ref ik, .ref mr, .long la_, .long lb_, .ref mw, .long lc_, .int ti_, .int cb_, .long ld_, .long le_, .ref mq, .ref mz, .ref my, .int sm_, .ref mb, .int bl_, .int ta_, .int tl_, .int tk_, .int vl_, .ref mx, .ref mv])), (nw, .inl (cn_, 350, .inl fn)), (mr, .inl (cr_, 3, .inl fr_))]) [0, 1, 2] rfl
                have hD9 := hD.sub (ws' := [(mo, .inr (12, [.ref nw, .ref kp, .ref ik, .ref mr, .long la_, .long lb_, .ref mw, .long lc_, .int ti_, .int cb_, .long ld_, .long le_, .ref mq, .ref mz, .ref my, .int sm_, .ref mb, .int bl_, .int ta_, .int tl_, .int tk_, .int vl_, .ref mx, .ref mv])), (nw, .inl (cn_, 350, .inl fn)), (mr, .inl (cr_, 3, .inl fr_))]) [0, 1, 2] (by decide) rfl
                have hK9 := hK.sub (tys' := [(cn_, .int), (cr_, .int)]) [0, 1] rfl
                exact W.iret (v := 1) hx hb hr (fun t ht hW => ⟨⟨1, (), rfl, trivial, fr_, by rw [ht]; exact hP9, va_K.moved hW.alike hK9, hD9⟩, hS.F ht⟩) hS.2.2 dX12_writeOff_117
            · have hn_146 : ¬ j_140 ≤ k_88 := fun q => c_143 ((nI_leI (a := j_140) (b := k_88) (by omega) (by omega)).mpr q)
              refine lv_iload hx hb dX12_writeOff_54 (lv_at hl 1 rfl) ?_
              refine lv_if_eq (tgt := 98) hx hb dX12_writeOff_56 (by decide) (fun c_147 => ?_) (fun c_147 => ?_)
              · refine lv_iconst (v := 0) hx hb dX12_writeOff_98 (by decide) ?_
                refine lv_istore (lv' := [(4, .int 0), (5, .int (nI k_88)), (3, .int x_87), (0, .ref mo), (1, .int na), (2, .int nb)]) hx hb dX12_writeOff_99 hl (by decide) rfl (fun ls hl => ?_)
                refine lv_iinc (v := (nI (k_88 + 1))) (lv' := [(5, .int (nI (k_88 + 1))), (4, .int 0), (3, .int x_87), (0, .ref mo), (1, .int na), (2, .int nb)]) hx hb dX12_writeOff_101 hl (k := 1) rfl (nI_add k_88 1) (by decide) rfl (fun ls hl => ?_)
                refine lv_goto (tgt := 43) hx hb dX12_writeOff_104 (by decide) ?_
                exact ih_139 ((k_88 + 1), 0, ls) ⟨by dsimp only; omega, lv_sub hl [0, 1, 2, 3, 4, 5] rfl⟩ (by dsimp only; omega)
              · refine lv_aload_n hx hb dX12_writeOff_59 rfl (lv_at hl 3 rfl) ?_
                refine lv_iload hx hb dX12_writeOff_60 (lv_at hl 0 rfl) ?_
                refine lv_iconst (v := 0) hx hb dX12_writeOff_62 (by decide) ?_
                have hPc_148 := hP.sub (ws' := [(mo, .inr (12, [.ref nw, .ref kp, .ref ik, .ref mr, .long la_, .long lb_, .ref mw, .long lc_, .int ti_, .int cb_, .long ld_, .long le_, .ref mq, .ref mz, .ref my, .int sm_, .ref mb, .int bl_, .int ta_, .int tl_, .int tk_, .int vl_, .ref mx, .ref mv])), (nw, .inl (cn_, 350, .inl fn))]) [0, 1] rfl
                have hKc_149 := hK.sub (tys' := [(cn_, .int)]) [0] rfl
                refine vp_callSi (va_Run.run (va_runV (As := [.int (nI k_88), .int 0]) (rest := []) ⟨hx, hb, hml, hown, hts⟩ (m_causeHas0 l dC dI mo nw kp ik mr la_ lb_ mw lc_ ti_ cb_ ld_ le_ mq mz my sm_ mb bl_ ta_ tl_ tk_ vl_ mx mv cn_ fn k_88 hOn (by omega)) (cwV 2 hts gX12_writeOff_X12_causeHas rfl rfl rfl (by decide +kernel) ⟨Nat.le_of_ble_eq_true rfl, Nat.le_of_ble_eq_true rfl⟩) ⟨fun a U g mk q => by obtain ⟨q0, qP, qK⟩ := q; exact ⟨q0, qP, va_K.moved (u := U) (U := U.calling g mk a) (Vm.Alike.refl U.vm) qK⟩, va_recv hK hP (ci := 12) (q0 := 0) rfl rfl, fun U hU hW => ⟨rfl, by rw [hU]; exact hPc_148, va_K.moved hW.alike hKc_149⟩⟩ rfl rfl hl.1 rfl (lv_room (Nat.le_of_ble_eq_true rfl)) dX12_writeOff_63 ⟨Nat.le_of_ble_eq_true rfl, Nat.le_of_ble_eq_true rfl⟩)) (fun r_150 hw_151 => ?_)
                refine lv_iload_n hx hb dX12_writeOff_66 rfl (lv_at hl 4 rfl) ?_
                refine lv_icmp_ne (tgt := 94) hx hb dX12_writeOff_67 (by decide) (fun c_152 => ?_) (fun c_152 => ?_)
                · refine lv_iconst (v := 1) hx hb dX12_writeOff_94 (by decide) ?_
                  refine lv_goto (tgt := 99) hx hb dX12_writeOff_95 (by decide) ?_
                  refine lv_istore (lv' := [(4, .int 1), (5, .int (nI k_88)), (3, .int x_87), (0, .ref mo), (1, .int na), (2, .int nb)]) hx hb dX12_writeOff_99 hl (by decide) rfl (fun ls hl => ?_)
                  refine lv_iinc (v := (nI (k_88 + 1))) (lv' := [(5, .int (nI (k_88 + 1))), (4, .int 1), (3, .int x_87), (0, .ref mo), (1, .int na), (2, .int nb)]) hx hb dX12_writeOff_101 hl (k := 1) rfl (nI_add k_88 1) (by decide) rfl (fun ls hl => ?_)
                  refine lv_goto (tgt := 43) hx hb dX12_writeOff_104 (by decide) ?_
                  exact ih_139 ((k_88 + 1), 1, ls) ⟨by dsimp only; omega, lv_sub hl [0, 1, 2, 3, 4, 5] rfl⟩ (by dsimp only; omega)
                · refine lv_bipush (v := 10) hx hb dX12_writeOff_70 (by decide) ?_
                  refine lv_iload_n hx hb dX12_writeOff_72 rfl (lv_at hl 5 rfl) ?_
                  refine lv_imul hx hb dX12_writeOff_73 ?_
                  refine lv_topi (fun x_153 _ => ?_)
                  refine lv_aload_n hx hb dX12_writeOff_74 rfl (lv_at hl 3 rfl) ?_
                  refine lv_iload hx hb dX12_writeOff_75 (lv_at hl 0 rfl) ?_
                  refine lv_iconst (v := 2) hx hb dX12_writeOff_77 (by decide) ?_
                  have hPc_154 := hP.sub (ws' := [(mo, .inr (12, [.ref nw, .ref kp, .ref ik, .ref mr, .long la_, .long lb_, .ref mw, .long lc_, .int ti_, .int cb_, .long ld_, .long le_, .ref mq, .ref mz, .ref my, .int sm_, .ref mb, .int bl_, .int ta_, .int tl_, .int tk_, .int vl_, .ref mx, .ref mv])), (nw, .inl (cn_, 350, .inl fn))]) [0, 1] rfl
                  have hKc_155 := hK.sub (tys' := [(cn_, .int)]) [0] rfl
                  refine vp_callSi (va_Run.run (va_runV (As := [.int (nI k_88), .int 2]) (rest := [.int x_153]) ⟨hx, hb, hml, hown, hts⟩ (m_causeHas2 l dC dI mo nw kp ik mr la_ lb_ mw lc_ ti_ cb_ ld_ le_ mq mz my sm_ mb bl_ ta_ tl_ tk_ vl_ mx mv cn_ fn k_88 hOn (by omega)) (cwV 2 hts gX12_writeOff_X12_causeHas rfl rfl rfl (by decide +kernel) ⟨Nat.le_of_ble_eq_true rfl, Nat.le_of_ble_eq_true rfl⟩) ⟨fun a U g mk q => by obtain ⟨q0, qP, qK⟩ := q; exact ⟨q0, qP, va_K.moved (u := U) (U := U.calling g mk a) (Vm.Alike.refl U.vm) qK⟩, va_recv hK hP (ci := 12) (q0 := 0) rfl rfl, fun U hU hW => ⟨rfl, by rw [hU]; exact hPc_154, va_K.moved hW.alike hKc_155⟩⟩ rfl rfl hl.1 rfl (lv_room (Nat.le_of_ble_eq_true rfl)) dX12_writeOff_78 ⟨Nat.le_of_ble_eq_true rfl, Nat.le_of_ble_eq_true rfl⟩)) (fun r_156 hw_157 => ?_)
                  refine lv_imul hx hb dX12_writeOff_81 ?_
                  refine lv_topi (fun x_158 _ => ?_)
                  refine lv_iload_n hx hb dX12_writeOff_82 rfl (lv_at hl 2 rfl) ?_
                  refine lv_aload_n hx hb dX12_writeOff_83 rfl (lv_at hl 3 rfl) ?_
                  refine lv_iload hx hb dX12_writeOff_84 (lv_at hl 0 rfl) ?_
                  refine lv_iconst (v := 3) hx hb dX12_writeOff_86 (by decide) ?_
                  have hPc_159 := hP.sub (ws' := [(mo, .inr (12, [.ref nw, .ref kp, .ref ik, .ref mr, .long la_, .long lb_, .ref mw, .long lc_, .int ti_, .int cb_, .long ld_, .long le_, .ref mq, .ref mz, .ref my, .int sm_, .ref mb, .int bl_, .int ta_, .int tl_, .int tk_, .int vl_, .ref mx, .ref mv])), (nw, .inl (cn_, 350, .inl fn))]) [0, 1] rfl
                  have hKc_160 := hK.sub (tys' := [(cn_, .int)]) [0] rfl
                  refine vp_callSi (va_Run.run (va_runV (As := [.int (nI k_88), .int 3]) (rest := [.int x_87, .int x_158]) ⟨hx, hb, hml, hown, hts⟩ (m_causeHas3 l dC dI mo nw kp ik mr la_ lb_ mw lc_ ti_ cb_ ld_ le_ mq mz my sm_ mb bl_ ta_ tl_ tk_ vl_ mx mv cn_ fn k_88 hOn (by omega)) (cwV 2 hts gX12_writeOff_X12_causeHas rfl rfl rfl (by decide +kernel) ⟨Nat.le_of_ble_eq_true rfl, Nat.le_of_ble_eq_true rfl⟩) ⟨fun a U g mk q => by obtain ⟨q0, qP, qK⟩ := q; exact ⟨q0, qP, va_K.moved (u := U) (U := U.calling g mk a) (Vm.Alike.refl U.vm) qK⟩, va_recv hK hP (ci := 12) (q0 := 0) rfl rfl, fun U hU hW => ⟨rfl, by rw [hU]; exact hPc_159, va_K.moved hW.alike hKc_160⟩⟩ rfl rfl hl.1 rfl (lv_room (Nat.le_of_ble_eq_true rfl)) dX12_writeOff_87 ⟨Nat.le_of_ble_eq_true rfl, Nat.le_of_ble_eq_true rfl⟩)) (fun r_161 hw_162 => ?_)
                  refine lv_imul hx hb dX12_writeOff_90 ?_
                  refine lv_topi (fun x_163 _ => ?_)
                  refine lv_icmp_lt (tgt := 98) hx hb dX12_writeOff_91 (by decide) (fun c_164 => ?_) (fun c_164 => ?_)
                  · refine lv_iconst (v := 0) hx hb dX12_writeOff_98 (by decide) ?_
                    refine lv_istore (lv' := [(4, .int 0), (5, .int (nI k_88)), (3, .int x_87), (0, .ref mo), (1, .int na), (2, .int nb)]) hx hb dX12_writeOff_99 hl (by decide) rfl (fun ls hl => ?_)
                    refine lv_iinc (v := (nI (k_88 + 1))) (lv' := [(5, .int (nI (k_88 + 1))), (4, .int 0), (3, .int x_87), (0, .ref mo), (1, .int na), (2, .int nb)]) hx hb dX12_writeOff_101 hl (k := 1) rfl (nI_add k_88 1) (by decide) rfl (fun ls hl => ?_)
                    refine lv_goto (tgt := 43) hx hb dX12_writeOff_104 (by decide) ?_
                    exact ih_139 ((k_88 + 1), 0, ls) ⟨by dsimp only; omega, lv_sub hl [0, 1, 2, 3, 4, 5] rfl⟩ (by dsimp only; omega)
                  · refine lv_iconst (v := 1) hx hb dX12_writeOff_94 (by decide) ?_
                    refine lv_goto (tgt := 99) hx hb dX12_writeOff_95 (by decide) ?_
                    refine lv_istore (lv' := [(4, .int 1), (5, .int (nI k_88)), (3, .int x_87), (0, .ref mo), (1, .int na), (2, .int nb)]) hx hb dX12_writeOff_99 hl (by decide) rfl (fun ls hl => ?_)
                    refine lv_iinc (v := (nI (k_88 + 1))) (lv' := [(5, .int (nI (k_88 + 1))), (4, .int 1), (3, .int x_87), (0, .ref mo), (1, .int na), (2, .int nb)]) hx hb dX12_writeOff_101 hl (k := 1) rfl (nI_add k_88 1) (by decide) rfl (fun ls hl => ?_)
                    refine lv_goto (tgt := 43) hx hb dX12_writeOff_104 (by decide) ?_
                    exact ih_139 ((k_88 + 1), 1, ls) ⟨by dsimp only; omega, lv_sub hl [0, 1, 2, 3, 4, 5] rfl⟩ (by dsimp only; omega)
        · exact absurd c_8 (by decide)
      · obtain rfl : 0 = r_5 := (hw_6.trans (if_neg (fun z => hc_7 ((tz_in64 (by first | rfl | decide) rfl (by first | rfl | decide)).mp z)))).symm
        refine lv_if_ne (tgt := 26) hx hb dX12_writeOff_16 (by decide) (fun c_165 => ?_) (fun c_165 => ?_)
        · exact absurd c_165 (by decide)
        · refine lv_aload_n hx hb dX12_writeOff_19 rfl (lv_at hl 0 rfl) ?_
          refine lv_bipush (v := (-2)) hx hb dX12_writeOff_20 (by decide) ?_
          have hPc := hP.sub (ws' := [(mo, .inr (12, [.ref nw, .ref kp, .ref ik, .ref mr, .long la_, .long lb_, .ref mw, .long lc_, .int ti_, .int cb_, .long ld_, .long le_, .ref mq, .ref mz, .ref my, .int sm_, .ref mb, .int bl_, .int ta_, .int tl_, .int tk_, .int vl_, .ref mx, .ref mv])), (mr, .inl (cr_, 3, .inl fr_))]) [0, 2] rfl
          have hDc := hD.sub (ws' := [(mo, .inr (12, [.ref nw, .ref kp, .ref ik, .ref mr, .long la_, .long lb_, .ref mw, .long lc_, .int ti_, .int cb_, .long ld_, .long le_, .ref mq, .ref mz, .ref my, .int sm_, .ref mb, .int bl_, .int ta_, .int tl_, .int tk_, .int vl_, .ref mx, .ref mv])), (mr, .inl (cr_, 3, .inl fr_))]) [0, 2] (by decide) rfl
          have hKc := hK.sub (tys' := [(cr_, .int)]) [1] rfl
          have hFc := va_free (wc := [(mo, .inr (12, [.ref nw, .ref kp, .ref ik, .ref mr, .long la_, .long lb_, .ref mw, .long lc_, .int ti_, .int cb_, .long ld_, .long le_, .ref mq, .ref mz, .ref my, .int sm_, .ref mb, .int bl_, .int ta_, .int tl_, .int tk_, .int vl_, .ref mx, .ref mv])), (mr, .inl (cr_, 3, .inl fr_))]) hD hS hA [0, 2] rfl
          refine va_calli (va_runV (As := [.int (-2)]) (rest := []) ⟨hx, hb, hml, hown, hts⟩ (m_bad l dC dI mo nw kp ik mr la_ lb_ mw lc_ ti_ cb_ ld_ le_ mq mz my sm_ mb bl_ ta_ tl_ tk_ vl_ mx mv cr_ fr_ (-2) s.heap.size) (cwV 1 hts gX12_writeOff_X12_bad rfl rfl rfl (by decide +kernel) ⟨Nat.le_of_ble_eq_true rfl, Nat.le_of_ble_eq_true rfl⟩) ⟨fun a U g mk q => by obtain ⟨q0, q1, qP, qK, qD⟩ := q; exact ⟨q0, q1, qP, va_K.moved (u := U) (U := U.calling g mk a) (Vm.Alike.refl U.vm) qK, qD⟩, va_recv hK hP (ci := 12) (q0 := 0) rfl rfl, fun U hU hW => ⟨rfl, by rw [hU], by rw [hU]; exact hPc, va_K.moved hW.alike hKc, hDc.weaken (fun _ _ _ _ => trivial)⟩⟩ rfl rfl hl.1 rfl (lv_room (Nat.le_of_ble_eq_true rfl)) dX12_writeOff_22 ⟨Nat.le_of_ble_eq_true rfl, Nat.le_of_ble_eq_true rfl⟩) hS (fun q _ h => hFc q h) hFc (fun r_166 u_ t H1 locs ht hvm hw_167 hB hz1 hk1 hS => ?_)
          obtain ⟨gr__168, hP1, hK1, hD1⟩ := hB
          rw [ht] at hP1
          have hK1 := va_K.moved hvm.symm hK1
          obtain ⟨hP, hD⟩ := va_join (wr := [(nw, .inl (cn_, 350, .inl fn))]) (w1 := [(mo, .inr (12, [.ref nw, .ref kp, .ref ik, .ref mr, .long la_, .long lb_, .ref mw, .long lc_, .int ti_, .int cb_, .long ld_, .long le_, .ref mq, .ref mz, .ref my, .int sm_, .ref mb, .int bl_, .int ta_, .int tl_, .int tk_, .int vl_, .ref mx, .ref mv])), (mr, .inl (cr_, 3, .inl gr__168))]) hP hD [0, 2] [1] rfl rfl (by decide) (by decide) hk1 hFc hP1 hD1
          generalize H1 = H at hP hS ⊢
          have hP : va_P (dC, dI) vwCl [(nw, .inl (cn_, 350, .inl fn)), (mo, .inr (12, [.ref nw, .ref kp, .ref ik, .ref mr, .long la_, .long lb_, .ref mw, .long lc_, .int ti_, .int cb_, .long ld_, .long le_, .ref mq, .ref mz, .ref my, .int sm_, .ref mb, .int bl_, .int ta_, .int tl_, .int tk_, .int vl_, .ref mx, .ref mv])), (mr, .inl (cr_, 3, .inl gr__168))] H := hP
          have hD : va_D A [(nw, .inl (cn_, 350, .inl fn)), (mo, .inr (12, [.ref nw, .ref kp, .ref ik, .ref mr, .long la_, .long lb_, .ref mw, .long lc_, .int ti_, .int cb_, .long ld_, .long le_, .ref mq, .ref mz, .ref my, .int sm_, .ref mb, .int bl_, .int ta_, .int tl_, .int tk_, .int vl_, .ref mx, .ref mv])), (mr, .inl (cr_, 3, .inl gr__168))] := hD
          obtain rfl : (-2) = r_166 := hw_167.symm
          have hP9 := hP.sub (ws' := [(mo, .inr (12, [.ref nw, .ref kp, .ref ik, .ref mr, .long la_, .long lb_, .ref mw, .long lc_, .int ti_, .int cb_, .long ld_, .long le_, .ref mq, .ref mz, .ref my, .int sm_, .ref mb, .int bl_, .int ta_, .int tl_, .int tk_, .int vl_, .ref mx, .ref mv])), (nw, .inl (cn_, 350, .inl fn)), (mr, .inl (cr_, 3, .inl gr__168))]) [1, 0, 2] rfl
          have hD9 := hD.sub (ws' := [(mo, .inr (12, [.ref nw, .ref kp, .ref ik, .ref mr, .long la_, .long lb_, .ref mw, .long lc_, .int ti_, .int cb_, .long ld_, .long le_, .ref mq, .ref mz, .ref my, .int sm_, .ref mb, .int bl_, .int ta_, .int tl_, .int tk_, .int vl_, .ref mx, .ref mv])), (nw, .inl (cn_, 350, .inl fn)), (mr, .inl (cr_, 3, .inl gr__168))]) [1, 0, 2] (by decide) rfl
          have hK9 := hK.sub (tys' := [(cn_, .int), (cr_, .int)]) [0, 1] rfl
          exact W.iret (v := (-2)) hx hb hr (fun t ht hW => ⟨⟨(-2), (), rfl, trivial, gr__168, by rw [ht]; exact hP9, va_K.moved hW.alike hK9, hD9⟩, hS.F ht⟩) hS.2.2 dX12_writeOff_25
  · obtain rfl : 0 = r_1 := (hw_2.trans (if_neg hc_3)).symm
    refine lv_if_eq (tgt := 19) hx hb dX12_writeOff_4 (by decide) (fun c_169 => ?_) (fun c_169 => ?_)
    · refine lv_aload_n hx hb dX12_writeOff_19 rfl (lv_at hl 0 rfl) ?_
      refine lv_bipush (v := (-2)) hx hb dX12_writeOff_20 (by decide) ?_
      have hPc := hP.sub (ws' := [(mo, .inr (12, [.ref nw, .ref kp, .ref ik, .ref mr, .long la_, .long lb_, .ref mw, .long lc_, .int ti_, .int cb_, .long ld_, .long le_, .ref mq, .ref mz, .ref my, .int sm_, .ref mb, .int bl_, .int ta_, .int tl_, .int tk_, .int vl_, .ref mx, .ref mv])), (mr, .inl (cr_, 3, .inl fr_))]) [0, 2] rfl
      have hDc := hD.sub (ws' := [(mo, .inr (12, [.ref nw, .ref kp, .ref ik, .ref mr, .long la_, .long lb_, .ref mw, .long lc_, .int ti_, .int cb_, .long ld_, .long le_, .ref mq, .ref mz, .ref my, .int sm_, .ref mb, .int bl_, .int ta_, .int tl_, .int tk_, .int vl_, .ref mx, .ref mv])), (mr, .inl (cr_, 3, .inl fr_))]) [0, 2] (by decide) rfl
      have hKc := hK.sub (tys' := [(cr_, .int)]) [1] rfl
      have hFc := va_free (wc := [(mo, .inr (12, [.ref nw, .ref kp, .ref ik, .ref mr, .long la_, .long lb_, .ref mw, .long lc_, .int ti_, .int cb_, .long ld_, .long le_, .ref mq, .ref mz, .ref my, .int sm_, .ref mb, .int bl_, .int ta_, .int tl_, .int tk_, .int vl_, .ref mx, .ref mv])), (mr, .inl (cr_, 3, .inl fr_))]) hD hS hA [0, 2] rfl
      refine va_calli (va_runV (As := [.int (-2)]) (rest := []) ⟨hx, hb, hml, hown, hts⟩ (m_bad l dC dI mo nw kp ik mr la_ lb_ mw lc_ ti_ cb_ ld_ le_ mq mz my sm_ mb bl_ ta_ tl_ tk_ vl_ mx mv cr_ fr_ (-2) s.heap.size) (cwV 1 hts gX12_writeOff_X12_bad rfl rfl rfl (by decide +kernel) ⟨Nat.le_of_ble_eq_true rfl, Nat.le_of_ble_eq_true rfl⟩) ⟨fun a U g mk q => by obtain ⟨q0, q1, qP, qK, qD⟩ := q; exact ⟨q0, q1, qP, va_K.moved (u := U) (U := U.calling g mk a) (Vm.Alike.refl U.vm) qK, qD⟩, va_recv hK hP (ci := 12) (q0 := 0) rfl rfl, fun U hU hW => ⟨rfl, by rw [hU], by rw [hU]; exact hPc, va_K.moved hW.alike hKc, hDc.weaken (fun _ _ _ _ => trivial)⟩⟩ rfl rfl hl.1 rfl (lv_room (Nat.le_of_ble_eq_true rfl)) dX12_writeOff_22 ⟨Nat.le_of_ble_eq_true rfl, Nat.le_of_ble_eq_true rfl⟩) hS (fun q _ h => hFc q h) hFc (fun r_170 u_ t H1 locs ht hvm hw_171 hB hz1 hk1 hS => ?_)
      obtain ⟨gr__172, hP1, hK1, hD1⟩ := hB
      rw [ht] at hP1
      have hK1 := va_K.moved hvm.symm hK1
      obtain ⟨hP, hD⟩ := va_join (wr := [(nw, .inl (cn_, 350, .inl fn))]) (w1 := [(mo, .inr (12, [.ref nw, .ref kp, .ref ik, .ref mr, .long la_, .long lb_, .ref mw, .long lc_, .int ti_, .int cb_, .long ld_, .long le_, .ref mq, .ref mz, .ref my, .int sm_, .ref mb, .int bl_, .int ta_, .int tl_, .int tk_, .int vl_, .ref mx, .ref mv])), (mr, .inl (cr_, 3, .inl gr__172))]) hP hD [0, 2] [1] rfl rfl (by decide) (by decide) hk1 hFc hP1 hD1
      generalize H1 = H at hP hS ⊢
      have hP : va_P (dC, dI) vwCl [(nw, .inl (cn_, 350, .inl fn)), (mo, .inr (12, [.ref nw, .ref kp, .ref ik, .ref mr, .long la_, .long lb_, .ref mw, .long lc_, .int ti_, .int cb_, .long ld_, .long le_, .ref mq, .ref mz, .ref my, .int sm_, .ref mb, .int bl_, .int ta_, .int tl_, .int tk_, .int vl_, .ref mx, .ref mv])), (mr, .inl (cr_, 3, .inl gr__172))] H := hP
      have hD : va_D A [(nw, .inl (cn_, 350, .inl fn)), (mo, .inr (12, [.ref nw, .ref kp, .ref ik, .ref mr, .long la_, .long lb_, .ref mw, .long lc_, .int ti_, .int cb_, .long ld_, .long le_, .ref mq, .ref mz, .ref my, .int sm_, .ref mb, .int bl_, .int ta_, .int tl_, .int tk_, .int vl_, .ref mx, .ref mv])), (mr, .inl (cr_, 3, .inl gr__172))] := hD
      obtain rfl : (-2) = r_170 := hw_171.symm
      have hP9 := hP.sub (ws' := [(mo, .inr (12, [.ref nw, .ref kp, .ref ik, .ref mr, .long la_, .long lb_, .ref mw, .long lc_, .int ti_, .int cb_, .long ld_, .long le_, .ref mq, .ref mz, .ref my, .int sm_, .ref mb, .int bl_, .int ta_, .int tl_, .int tk_, .int vl_, .ref mx, .ref mv])), (nw, .inl (cn_, 350, .inl fn)), (mr, .inl (cr_, 3, .inl gr__172))]) [1, 0, 2] rfl
      have hD9 := hD.sub (ws' := [(mo, .inr (12, [.ref nw, .ref kp, .ref ik, .ref mr, .long la_, .long lb_, .ref mw, .long lc_, .int ti_, .int cb_, .long ld_, .long le_, .ref mq, .ref mz, .ref my, .int sm_, .ref mb, .int bl_, .int ta_, .int tl_, .int tk_, .int vl_, .ref mx, .ref mv])), (nw, .inl (cn_, 350, .inl fn)), (mr, .inl (cr_, 3, .inl gr__172))]) [1, 0, 2] (by decide) rfl
      have hK9 := hK.sub (tys' := [(cn_, .int), (cr_, .int)]) [0, 1] rfl
      exact W.iret (v := (-2)) hx hb hr (fun t ht hW => ⟨⟨(-2), (), rfl, trivial, gr__172, by rw [ht]; exact hP9, va_K.moved hW.alike hK9, hD9⟩, hS.F ht⟩) hS.2.2 dX12_writeOff_25
    · exact absurd c_169 (by decide)
theorem dX12_sums_0 : decode cX12_sums 0 = .ok (.lload_n 1, 1) := by decide +kernel
theorem dX12_sums_1 : decode cX12_sums 1 = .ok (.lstore 5, 2) := by decide +kernel
theorem dX12_sums_3 : decode cX12_sums 3 = .ok (.iconst 0, 1) := by decide +kernel
theorem dX12_sums_4 : decode cX12_sums 4 = .ok (.istore 7, 2) := by decide +kernel
theorem dX12_sums_6 : decode cX12_sums 6 = .ok (.iload 7, 2) := by decide +kernel
theorem dX12_sums_8 : decode cX12_sums 8 = .ok (.iload 4, 2) := by decide +kernel
theorem dX12_sums_10 : decode cX12_sums 10 = .ok (.if_icmp .ge 28, 3) := by decide +kernel
theorem dX12_sums_13 : decode cX12_sums 13 = .ok (.ldc2_w 316, 3) := by decide +kernel
theorem dX12_sums_16 : decode cX12_sums 16 = .ok (.lload 5, 2) := by decide +kernel
theorem dX12_sums_18 : decode cX12_sums 18 = .ok (.lmul, 1) := by decide +kernel
theorem dX12_sums_19 : decode cX12_sums 19 = .ok (.aload_n 0, 1) := by decide +kernel
theorem dX12_sums_20 : decode cX12_sums 20 = .ok (.getfield 7, 3) := by decide +kernel
theorem dX12_sums_23 : decode cX12_sums 23 = .ok (.iload_n 3, 1) := by decide +kernel
theorem dX12_sums_24 : decode cX12_sums 24 = .ok (.iload 7, 2) := by decide +kernel
theorem dX12_sums_26 : decode cX12_sums 26 = .ok (.iadd, 1) := by decide +kernel
theorem dX12_sums_27 : decode cX12_sums 27 = .ok (.iaload, 1) := by decide +kernel
theorem dX12_sums_28 : decode cX12_sums 28 = .ok (.i2l, 1) := by decide +kernel
theorem dX12_sums_29 : decode cX12_sums 29 = .ok (.ladd, 1) := by decide +kernel
theorem dX12_sums_30 : decode cX12_sums 30 = .ok (.lstore 5, 2) := by decide +kernel
theorem dX12_sums_32 : decode cX12_sums 32 = .ok (.iinc 7 1, 3) := by decide +kernel
theorem dX12_sums_35 : decode cX12_sums 35 = .ok (.goto (-29), 3) := by decide +kernel
theorem dX12_sums_38 : decode cX12_sums 38 = .ok (.lload 5, 2) := by decide +kernel
theorem dX12_sums_40 : decode cX12_sums 40 = .ok (.lreturn, 1) := by decide +kernel
set_option maxRecDepth 20000 in
theorem iw_m_sums_X12 : ∀ w ∈ wsX120, w ∈ wsX12_sums := by decide +kernel
set_option maxHeartbeats 4000000 in
set_option maxRecDepth 100000 in
theorem m_sums (l : Launch) (dC : Nat → ClassId) (dI : Nat → Nat → Nat) (mo : Nat) (nw : Nat) (kp : Nat) (ik : Nat) (mr : Nat) (la_ : Int64) (lb_ : Int64) (mw : Nat) (lc_ : Int64) (ti_ : Int32) (cb_ : Int32) (ld_ : Int64) (le_ : Int64) (mq : Nat) (mz : Nat) (my : Nat) (sm_ : Int32) (mb : Nat) (bl_ : Int32) (ta_ : Int32) (tl_ : Int32) (tk_ : Int32) (vl_ : Int32) (mx : Nat) (mv : Nat) (cn_ : ClassId) (fn : Nat → Int32) (hh : Int64) (jf : Nat) (jn : Nat) (hO : tz_OK 350 fn) (hj : jf + jn ≤ 350) : Met l yX12_sums wsX12_sums ({ frames := 0, cells := 0, slots := 0, locals := 0 }) (va_Pc [.ref mo, .long hh, .int (nI jf), .int (nI jn)] (fun U => va_P (dC, dI) vwCl [(mo, .inr (12, [.ref nw, .ref kp, .ref ik, .ref mr, .long la_, .long lb_, .ref mw, .long lc_, .int ti_, .int cb_, .long ld_, .long le_, .ref mq, .ref mz, .ref my, .int sm_, .ref mb, .int bl_, .int ta_, .int tl_, .int tk_, .int vl_, .ref mx, .ref mv])), (nw, .inl (cn_, 350, .inl fn))] U.heap ∧ va_K (dC, dI) vwCl [(cn_, .int)] U)) (vp_Sl (fun r => True)) 0 0 (fun _ => False) := by
  refine Met.ofW (cc := cX12_sums) (maxL := 8) (ret := (some .long)) (by decide) rfl ?_
  intro p e s m args below meth c s₁ B hml hv
  obtain ⟨rfl, hP, hK⟩ := hv
  have hx := B.exec
  have hb := B.bytes
  have hr := B.returns
  have hts := atoms_spec (ws := wsX12_sums) B.pre
  have hown : s.vm.findClass RX12 = some m.cls := findClass_of_methodNamed B.named
  have hlocks := B.notSynchronized
  have hl := lv_entry ([.ref mo, .long hh, .int (nI jf), .int (nI jn)]) (n := 8) (Nat.le_of_ble_eq_true rfl)
  rw [lg_entry_eq]
  generalize (lg_sl ([.ref mo, .long hh, .int (nI jf), .int (nI jn)]) ++ List.replicate (8 - (lg_sl ([.ref mo, .long hh, .int (nI jf), .int (nI jn)])).length) Slot.unset).toArray = ls at hl ⊢
  have hl : lv_has ls 8 [(0, .ref mo), (1, .long hh), (3, .int (nI jf)), (4, .int (nI jn))] := hl
  refine lv_lload_n hx hb dX12_sums_0 rfl (lv_at hl 1 rfl) ?_
  refine lv_lstore (lv' := [(5, .long hh), (0, .ref mo), (1, .long hh), (3, .int (nI jf)), (4, .int (nI jn))]) hx hb dX12_sums_1 hl (by decide) rfl (fun ls hl => ?_)
  refine lv_iconst (v := 0) hx hb dX12_sums_3 (by decide) ?_
  refine lv_istore (lv' := [(7, .int 0), (5, .long hh), (0, .ref mo), (1, .long hh), (3, .int (nI jf)), (4, .int (nI jn))]) hx hb dX12_sums_4 hl (by decide) rfl (fun ls hl => ?_)
  refine tz_while (σ := Nat × Int64 × Array Slot) (fun x => W p l e _ s m _ below meth c _ _ _ _ _ (F0 m 6 x.2.2 [])) (fun x => x.1 ≤ jn ∧ lv_has x.2.2 8 [(7, .int (nI x.1)), (5, .long x.2.1), (0, .ref mo), (1, .long hh), (3, .int (nI jf)), (4, .int (nI jn))]) (fun x => jn - x.1) ?_ (0, hh, ls) ⟨by (try dsimp only); omega, hl⟩
  rintro ⟨k_1, v_10, ls⟩ ⟨hi_19_0, hl⟩ ih_20
  dsimp only at hi_19_0 hl ih_20 ⊢
  refine lv_iload hx hb dX12_sums_6 (lv_at hl 0 rfl) ?_
  refine lv_iload hx hb dX12_sums_8 (lv_at hl 5 rfl) ?_
  refine lv_icmp_ge (tgt := 38) hx hb dX12_sums_10 (by decide) (fun c_21 => ?_) (fun c_21 => ?_)
  · have hn_22 : jn ≤ k_1 := (nI_leI (a := jn) (b := k_1) (by omega) (by omega)).mp c_21
    refine lv_lload hx hb dX12_sums_38 (lv_at hl 1 rfl) ?_
    exact W.lret (v := v_10) hx hb hr (fun t ht hW => ⟨v_10, rfl, trivial, ht⟩) (fun _ h => absurd h List.not_mem_nil) dX12_sums_40
  · have hn_23 : ¬ jn ≤ k_1 := fun q => c_21 ((nI_leI (a := jn) (b := k_1) (by omega) (by omega)).mpr q)
    refine lv_ldc2 hx hb hown (hts (.constantLong RX12 316 (31)) (by decide +kernel)) dX12_sums_13 ?_
    refine lv_lload hx hb dX12_sums_16 (lv_at hl 1 rfl) ?_
    refine lv_lmul hx hb dX12_sums_18 ?_
    refine lv_topl (fun x_24 _ => ?_)
    refine lv_aload_n hx hb dX12_sums_19 rfl (lv_at hl 2 rfl) ?_
    refine va_get (D := (dC, dI)) (ci := 12) (v := .ref nw) (C := RX12) (T := TX12) (N := 24) hx hb hts iw_m_sums_X12 hown hK hP 0 rfl rfl 0 (by decide) (hts (.fieldLink RX12 7 "ThriceCountedModel" "now" "[I") (by decide +kernel)) (fun _ h9 => h9) rfl dX12_sums_20 ?_
    refine lv_iload_n hx hb dX12_sums_23 rfl (lv_at hl 4 rfl) ?_
    refine lv_iload hx hb dX12_sums_24 (lv_at hl 0 rfl) ?_
    refine lv_iadd hx hb dX12_sums_26 ?_
    refine tz_i (nI (jf + k_1)) (nI_add jf k_1) ?_
    refine va_iald hx hb hK hP 1 0 rfl rfl (vp_in_nI (n := (jf + k_1)) (N := 350) (by omega) (by decide)) dX12_sums_27 ?_
    refine lv_topi (fun x_25 ex_26 => ?_)
    have hb_27 : tz_bd (jf + k_1) x_25 := tz_bd_ld hO (by omega) ex_26 (by omega)
    refine lv_i2l (v := x_25.toInt64) hx hb dX12_sums_28 rfl ?_
    refine lv_ladd hx hb dX12_sums_29 ?_
    refine lv_topl (fun x_28 _ => ?_)
    refine lv_lstore (lv' := [(5, .long x_28), (7, .int (nI k_1)), (0, .ref mo), (1, .long hh), (3, .int (nI jf)), (4, .int (nI jn))]) hx hb dX12_sums_30 hl (by decide) rfl (fun ls hl => ?_)
    refine lv_iinc (v := (nI (k_1 + 1))) (lv' := [(7, .int (nI (k_1 + 1))), (5, .long x_28), (0, .ref mo), (1, .long hh), (3, .int (nI jf)), (4, .int (nI jn))]) hx hb dX12_sums_32 hl (k := 1) rfl (nI_add k_1 1) (by decide) rfl (fun ls hl => ?_)
    refine lv_goto (tgt := 6) hx hb dX12_sums_35 (by decide) ?_
    exact ih_20 ((k_1 + 1), x_28, ls) ⟨by dsimp only; omega, lv_sub hl [0, 1, 2, 3, 4, 5] rfl⟩ (by dsimp only; omega)
set_option maxRecDepth 20000 in
theorem ggX12_digest_X12_counted : GoodIn wsX12_digest wsX12_counted := goodIn_r _ [10, 3, 11, 16, 17, 18, 19, 20, 21, 22, 23, 24, 25, 26, 27, 28, 29, 30, 31, 32, 33, 34, 35, 36, 37, 38, 39] (by decide +kernel) (by decide +kernel)
set_option maxRecDepth 20000 in
theorem gX12_digest_X12_counted : GoodIn wsX12_digest (wsV RX12 313 RX12 yX12_counted wsX12_counted) := goodIn_app (goodIn_of _ (by decide +kernel)) ggX12_digest_X12_counted
set_option maxRecDepth 20000 in
theorem ggX12_digest_X12_sums : GoodIn wsX12_digest wsX12_sums := goodIn_r _ [15, 2, 3, 16, 17, 18, 19, 20, 21, 22, 23, 24, 25, 26, 27, 28, 29, 30, 31, 32, 33, 34, 35, 36, 37, 38, 39] (by decide +kernel) (by decide +kernel)
set_option maxRecDepth 20000 in
theorem gX12_digest_X12_sums : GoodIn wsX12_digest (wsV RX12 320 RX12 yX12_sums wsX12_sums) := goodIn_app (goodIn_of _ (by decide +kernel)) ggX12_digest_X12_sums
theorem dX12_digest_0 : decode cX12_digest 0 = .ok (.ldc2_w 318, 3) := by decide +kernel
theorem dX12_digest_3 : decode cX12_digest 3 = .ok (.lstore_n 1, 1) := by decide +kernel
theorem dX12_digest_4 : decode cX12_digest 4 = .ok (.iconst 0, 1) := by decide +kernel
theorem dX12_digest_5 : decode cX12_digest 5 = .ok (.istore_n 3, 1) := by decide +kernel
theorem dX12_digest_6 : decode cX12_digest 6 = .ok (.iload_n 3, 1) := by decide +kernel
theorem dX12_digest_7 : decode cX12_digest 7 = .ok (.bipush 6, 2) := by decide +kernel
theorem dX12_digest_9 : decode cX12_digest 9 = .ok (.if_icmp .ge 22, 3) := by decide +kernel
theorem dX12_digest_12 : decode cX12_digest 12 = .ok (.ldc2_w 316, 3) := by decide +kernel
theorem dX12_digest_15 : decode cX12_digest 15 = .ok (.lload_n 1, 1) := by decide +kernel
theorem dX12_digest_16 : decode cX12_digest 16 = .ok (.lmul, 1) := by decide +kernel
theorem dX12_digest_17 : decode cX12_digest 17 = .ok (.aload_n 0, 1) := by decide +kernel
theorem dX12_digest_18 : decode cX12_digest 18 = .ok (.iload_n 3, 1) := by decide +kernel
theorem dX12_digest_19 : decode cX12_digest 19 = .ok (.invokevirtual 313, 3) := by decide +kernel
theorem dX12_digest_22 : decode cX12_digest 22 = .ok (.i2l, 1) := by decide +kernel
theorem dX12_digest_23 : decode cX12_digest 23 = .ok (.ladd, 1) := by decide +kernel
theorem dX12_digest_24 : decode cX12_digest 24 = .ok (.lstore_n 1, 1) := by decide +kernel
theorem dX12_digest_25 : decode cX12_digest 25 = .ok (.iinc 3 1, 3) := by decide +kernel
theorem dX12_digest_28 : decode cX12_digest 28 = .ok (.goto (-22), 3) := by decide +kernel
theorem dX12_digest_31 : decode cX12_digest 31 = .ok (.aload_n 0, 1) := by decide +kernel
theorem dX12_digest_32 : decode cX12_digest 32 = .ok (.lload_n 1, 1) := by decide +kernel
theorem dX12_digest_33 : decode cX12_digest 33 = .ok (.iconst 5, 1) := by decide +kernel
theorem dX12_digest_34 : decode cX12_digest 34 = .ok (.aload_n 0, 1) := by decide +kernel
theorem dX12_digest_35 : decode cX12_digest 35 = .ok (.getfield 7, 3) := by decide +kernel
theorem dX12_digest_38 : decode cX12_digest 38 = .ok (.iconst 0, 1) := by decide +kernel
theorem dX12_digest_39 : decode cX12_digest 39 = .ok (.iaload, 1) := by decide +kernel
theorem dX12_digest_40 : decode cX12_digest 40 = .ok (.invokevirtual 320, 3) := by decide +kernel
theorem dX12_digest_43 : decode cX12_digest 43 = .ok (.lstore_n 1, 1) := by decide +kernel
theorem dX12_digest_44 : decode cX12_digest 44 = .ok (.aload_n 0, 1) := by decide +kernel
theorem dX12_digest_45 : decode cX12_digest 45 = .ok (.lload_n 1, 1) := by decide +kernel
theorem dX12_digest_46 : decode cX12_digest 46 = .ok (.bipush 10, 2) := by decide +kernel
theorem dX12_digest_48 : decode cX12_digest 48 = .ok (.iconst 4, 1) := by decide +kernel
theorem dX12_digest_49 : decode cX12_digest 49 = .ok (.aload_n 0, 1) := by decide +kernel
theorem dX12_digest_50 : decode cX12_digest 50 = .ok (.getfield 7, 3) := by decide +kernel
theorem dX12_digest_53 : decode cX12_digest 53 = .ok (.iconst 1, 1) := by decide +kernel
theorem dX12_digest_54 : decode cX12_digest 54 = .ok (.iaload, 1) := by decide +kernel
theorem dX12_digest_55 : decode cX12_digest 55 = .ok (.imul, 1) := by decide +kernel
theorem dX12_digest_56 : decode cX12_digest 56 = .ok (.invokevirtual 320, 3) := by decide +kernel
theorem dX12_digest_59 : decode cX12_digest 59 = .ok (.lstore_n 1, 1) := by decide +kernel
theorem dX12_digest_60 : decode cX12_digest 60 = .ok (.aload_n 0, 1) := by decide +kernel
theorem dX12_digest_61 : decode cX12_digest 61 = .ok (.lload_n 1, 1) := by decide +kernel
theorem dX12_digest_62 : decode cX12_digest 62 = .ok (.bipush 30, 2) := by decide +kernel
theorem dX12_digest_64 : decode cX12_digest 64 = .ok (.iconst 4, 1) := by decide +kernel
theorem dX12_digest_65 : decode cX12_digest 65 = .ok (.aload_n 0, 1) := by decide +kernel
theorem dX12_digest_66 : decode cX12_digest 66 = .ok (.getfield 7, 3) := by decide +kernel
theorem dX12_digest_69 : decode cX12_digest 69 = .ok (.iconst 2, 1) := by decide +kernel
theorem dX12_digest_70 : decode cX12_digest 70 = .ok (.iaload, 1) := by decide +kernel
theorem dX12_digest_71 : decode cX12_digest 71 = .ok (.imul, 1) := by decide +kernel
theorem dX12_digest_72 : decode cX12_digest 72 = .ok (.invokevirtual 320, 3) := by decide +kernel
theorem dX12_digest_75 : decode cX12_digest 75 = .ok (.lstore_n 1, 1) := by decide +kernel
theorem dX12_digest_76 : decode cX12_digest 76 = .ok (.aload_n 0, 1) := by decide +kernel
theorem dX12_digest_77 : decode cX12_digest 77 = .ok (.lload_n 1, 1) := by decide +kernel
theorem dX12_digest_78 : decode cX12_digest 78 = .ok (.bipush 62, 2) := by decide +kernel
theorem dX12_digest_80 : decode cX12_digest 80 = .ok (.iconst 4, 1) := by decide +kernel
theorem dX12_digest_81 : decode cX12_digest 81 = .ok (.aload_n 0, 1) := by decide +kernel
theorem dX12_digest_82 : decode cX12_digest 82 = .ok (.getfield 7, 3) := by decide +kernel
theorem dX12_digest_85 : decode cX12_digest 85 = .ok (.iconst 3, 1) := by decide +kernel
theorem dX12_digest_86 : decode cX12_digest 86 = .ok (.iaload, 1) := by decide +kernel
theorem dX12_digest_87 : decode cX12_digest 87 = .ok (.imul, 1) := by decide +kernel
theorem dX12_digest_88 : decode cX12_digest 88 = .ok (.invokevirtual 320, 3) := by decide +kernel
theorem dX12_digest_91 : decode cX12_digest 91 = .ok (.lstore_n 1, 1) := by decide +kernel
theorem dX12_digest_92 : decode cX12_digest 92 = .ok (.ldc2_w 316, 3) := by decide +kernel
theorem dX12_digest_95 : decode cX12_digest 95 = .ok (.ldc2_w 316, 3) := by decide +kernel
theorem dX12_digest_98 : decode cX12_digest 98 = .ok (.lload_n 1, 1) := by decide +kernel
theorem dX12_digest_99 : decode cX12_digest 99 = .ok (.lmul, 1) := by decide +kernel
theorem dX12_digest_100 : decode cX12_digest 100 = .ok (.aload_n 0, 1) := by decide +kernel
theorem dX12_digest_101 : decode cX12_digest 101 = .ok (.getfield 148, 3) := by decide +kernel
theorem dX12_digest_104 : decode cX12_digest 104 = .ok (.ladd, 1) := by decide +kernel
theorem dX12_digest_105 : decode cX12_digest 105 = .ok (.lmul, 1) := by decide +kernel
theorem dX12_digest_106 : decode cX12_digest 106 = .ok (.aload_n 0, 1) := by decide +kernel
theorem dX12_digest_107 : decode cX12_digest 107 = .ok (.getfield 23, 3) := by decide +kernel
theorem dX12_digest_110 : decode cX12_digest 110 = .ok (.ladd, 1) := by decide +kernel
theorem dX12_digest_111 : decode cX12_digest 111 = .ok (.lreturn, 1) := by decide +kernel
set_option maxRecDepth 20000 in
theorem iw_m_digest_X12 : ∀ w ∈ wsX120, w ∈ wsX12_digest := by decide +kernel
set_option maxHeartbeats 4000000 in
set_option maxRecDepth 100000 in
theorem m_digest (l : Launch) (dC : Nat → ClassId) (dI : Nat → Nat → Nat) (mo : Nat) (nw : Nat) (kp : Nat) (ik : Nat) (mr : Nat) (la_ : Int64) (lb_ : Int64) (mw : Nat) (lc_ : Int64) (ti_ : Int32) (cb_ : Int32) (ld_ : Int64) (le_ : Int64) (mq : Nat) (mz : Nat) (my : Nat) (sm_ : Int32) (mb : Nat) (bl_ : Int32) (ta_ : Int32) (tl_ : Int32) (tk_ : Int32) (vl_ : Int32) (mx : Nat) (mv : Nat) (cn_ : ClassId) (fn : Nat → Int32) (hOn : tz_OK 350 fn) : Met l yX12_digest wsX12_digest ({ frames := 1, cells := 0, slots := 0, locals := 27 }) (va_Pc [.ref mo] (fun U => va_P (dC, dI) vwCl [(mo, .inr (12, [.ref nw, .ref kp, .ref ik, .ref mr, .long la_, .long lb_, .ref mw, .long lc_, .int ti_, .int cb_, .long ld_, .long le_, .ref mq, .ref mz, .ref my, .int sm_, .ref mb, .int bl_, .int ta_, .int tl_, .int tk_, .int vl_, .ref mx, .ref mv])), (nw, .inl (cn_, 350, .inl fn))] U.heap ∧ va_K (dC, dI) vwCl [(cn_, .int)] U)) (vp_Sl (fun r => True)) 0 0 (fun _ => False) := by
  refine Met.ofW (cc := cX12_digest) (maxL := 4) (ret := (some .long)) (by decide) rfl ?_
  intro p e s m args below meth c s₁ B hml hv
  obtain ⟨rfl, hP, hK⟩ := hv
  have hx := B.exec
  have hb := B.bytes
  have hr := B.returns
  have hts := atoms_spec (ws := wsX12_digest) B.pre
  have hown : s.vm.findClass RX12 = some m.cls := findClass_of_methodNamed B.named
  have hlocks := B.notSynchronized
  have hl := lv_entry ([.ref mo]) (n := 4) (Nat.le_of_ble_eq_true rfl)
  rw [lg_entry_eq]
  generalize (lg_sl ([.ref mo]) ++ List.replicate (4 - (lg_sl ([.ref mo])).length) Slot.unset).toArray = ls at hl ⊢
  have hl : lv_has ls 4 [(0, .ref mo)] := hl
  refine lv_ldc2 hx hb hown (hts (.constantLong RX12 318 (937)) (by decide +kernel)) dX12_digest_0 ?_
  refine lv_lstore_n (lv' := [(1, .long 937), (0, .ref mo)]) hx hb dX12_digest_3 rfl hl (by decide) rfl (fun ls hl => ?_)
  refine lv_iconst (v := 0) hx hb dX12_digest_4 (by decide) ?_
  refine lv_istore_n (lv' := [(3, .int 0), (1, .long 937), (0, .ref mo)]) hx hb dX12_digest_5 rfl hl (by decide) rfl (fun ls hl => ?_)
  refine tz_while (σ := Nat × Int64 × Array Slot) (fun x => W p l e _ s m _ below meth c _ _ _ _ _ (F0 m 6 x.2.2 [])) (fun x => x.1 ≤ 6 ∧ lv_has x.2.2 4 [(3, .int (nI x.1)), (1, .long x.2.1), (0, .ref mo)]) (fun x => 6 - x.1) ?_ (0, 937, ls) ⟨by (try dsimp only); omega, hl⟩
  rintro ⟨k_1, v_10, ls⟩ ⟨hi_20_0, hl⟩ ih_21
  dsimp only at hi_20_0 hl ih_21 ⊢
  refine lv_iload_n hx hb dX12_digest_6 rfl (lv_at hl 0 rfl) ?_
  refine lv_bipush (v := 6) hx hb dX12_digest_7 (by decide) ?_
  refine lv_icmp_ge (tgt := 31) hx hb dX12_digest_9 (by decide) (fun c_22 => ?_) (fun c_22 => ?_)
  · have hn_23 : 6 ≤ k_1 := (nI_leI (a := 6) (b := k_1) (by omega) (by omega)).mp c_22
    refine lv_aload_n hx hb dX12_digest_31 rfl (lv_at hl 2 rfl) ?_
    refine lv_lload_n hx hb dX12_digest_32 rfl (lv_at hl 1 rfl) ?_
    refine lv_iconst (v := 5) hx hb dX12_digest_33 (by decide) ?_
    refine lv_aload_n hx hb dX12_digest_34 rfl (lv_at hl 2 rfl) ?_
    refine va_get (D := (dC, dI)) (ci := 12) (v := .ref nw) (C := RX12) (T := TX12) (N := 24) hx hb hts iw_m_digest_X12 hown hK hP 0 rfl rfl 0 (by decide) (hts (.fieldLink RX12 7 "ThriceCountedModel" "now" "[I") (by decide +kernel)) (fun _ h9 => h9) rfl dX12_digest_35 ?_
    refine lv_iconst (v := 0) hx hb dX12_digest_38 (by decide) ?_
    refine va_iald hx hb hK hP 1 0 rfl rfl (show ¬ ((0 : Int32) < 0 ∨ 350 ≤ (0 : Int32).toNatClampNeg) by decide) dX12_digest_39 ?_
    obtain ⟨j_24, hj_25, ej_26⟩ := hOn.nat (K := 0) (n := 5) (by omega) (show tz_b 0 = (0, 5) from by decide)
    refine tz_i (nI j_24) ej_26 ?_
    have hPc_27 := hP.sub (ws' := [(mo, .inr (12, [.ref nw, .ref kp, .ref ik, .ref mr, .long la_, .long lb_, .ref mw, .long lc_, .int ti_, .int cb_, .long ld_, .long le_, .ref mq, .ref mz, .ref my, .int sm_, .ref mb, .int bl_, .int ta_, .int tl_, .int tk_, .int vl_, .ref mx, .ref mv])), (nw, .inl (cn_, 350, .inl fn))]) [0, 1] rfl
    have hKc_28 := hK.sub (tys' := [(cn_, .int)]) [0] rfl
    refine vp_callSl (va_Run.run (va_runV (As := [.long v_10, .int 5, .int (nI j_24)]) (rest := []) ⟨hx, hb, hml, hown, hts⟩ (m_sums l dC dI mo nw kp ik mr la_ lb_ mw lc_ ti_ cb_ ld_ le_ mq mz my sm_ mb bl_ ta_ tl_ tk_ vl_ mx mv cn_ fn v_10 5 j_24 hOn (by omega)) (cwV 3 hts gX12_digest_X12_sums rfl rfl rfl (by decide +kernel) ⟨Nat.le_of_ble_eq_true rfl, Nat.le_of_ble_eq_true rfl⟩) ⟨fun a U g mk q => by obtain ⟨q0, qP, qK⟩ := q; exact ⟨q0, qP, va_K.moved (u := U) (U := U.calling g mk a) (Vm.Alike.refl U.vm) qK⟩, va_recv hK hP (ci := 12) (q0 := 0) rfl rfl, fun U hU hW => ⟨rfl, by rw [hU]; exact hPc_27, va_K.moved hW.alike hKc_28⟩⟩ rfl rfl hl.1 rfl (lv_room (Nat.le_of_ble_eq_true rfl)) dX12_digest_40 ⟨Nat.le_of_ble_eq_true rfl, Nat.le_of_ble_eq_true rfl⟩)) (fun r_29 hw_30 => ?_)
    refine lv_lstore_n (lv' := [(1, .long r_29), (3, .int (nI k_1)), (0, .ref mo)]) hx hb dX12_digest_43 rfl hl (by decide) rfl (fun ls hl => ?_)
    refine lv_aload_n hx hb dX12_digest_44 rfl (lv_at hl 2 rfl) ?_
    refine lv_lload_n hx hb dX12_digest_45 rfl (lv_at hl 0 rfl) ?_
    refine lv_bipush (v := 10) hx hb dX12_digest_46 (by decide) ?_
    refine lv_iconst (v := 4) hx hb dX12_digest_48 (by decide) ?_
    refine lv_aload_n hx hb dX12_digest_49 rfl (lv_at hl 2 rfl) ?_
    refine va_get (D := (dC, dI)) (ci := 12) (v := .ref nw) (C := RX12) (T := TX12) (N := 24) hx hb hts iw_m_digest_X12 hown hK hP 0 rfl rfl 0 (by decide) (hts (.fieldLink RX12 7 "ThriceCountedModel" "now" "[I") (by decide +kernel)) (fun _ h9 => h9) rfl dX12_digest_50 ?_
    refine lv_iconst (v := 1) hx hb dX12_digest_53 (by decide) ?_
    refine va_iald hx hb hK hP 1 0 rfl rfl (show ¬ ((1 : Int32) < 0 ∨ 350 ≤ (1 : Int32).toNatClampNeg) by decide) dX12_digest_54 ?_
    obtain ⟨j_31, hj_32, ej_33⟩ := hOn.nat (K := 1) (n := 5) (by omega) (show tz_b 1 = (0, 5) from by decide)
    refine tz_i (nI j_31) ej_33 ?_
    refine lv_imul hx hb dX12_digest_55 ?_
    refine tz_i (nI (4 * j_31)) (pk_mul 4 j_31) ?_
    have hPc_34 := hP.sub (ws' := [(mo, .inr (12, [.ref nw, .ref kp, .ref ik, .ref mr, .long la_, .long lb_, .ref mw, .long lc_, .int ti_, .int cb_, .long ld_, .long le_, .ref mq, .ref mz, .ref my, .int sm_, .ref mb, .int bl_, .int ta_, .int tl_, .int tk_, .int vl_, .ref mx, .ref mv])), (nw, .inl (cn_, 350, .inl fn))]) [0, 1] rfl
    have hKc_35 := hK.sub (tys' := [(cn_, .int)]) [0] rfl
    refine vp_callSl (va_Run.run (va_runV (As := [.long r_29, .int 10, .int (nI (4 * j_31))]) (rest := []) ⟨hx, hb, hml, hown, hts⟩ (m_sums l dC dI mo nw kp ik mr la_ lb_ mw lc_ ti_ cb_ ld_ le_ mq mz my sm_ mb bl_ ta_ tl_ tk_ vl_ mx mv cn_ fn r_29 10 (4 * j_31) hOn (by omega)) (cwV 3 hts gX12_digest_X12_sums rfl rfl rfl (by decide +kernel) ⟨Nat.le_of_ble_eq_true rfl, Nat.le_of_ble_eq_true rfl⟩) ⟨fun a U g mk q => by obtain ⟨q0, qP, qK⟩ := q; exact ⟨q0, qP, va_K.moved (u := U) (U := U.calling g mk a) (Vm.Alike.refl U.vm) qK⟩, va_recv hK hP (ci := 12) (q0 := 0) rfl rfl, fun U hU hW => ⟨rfl, by rw [hU]; exact hPc_34, va_K.moved hW.alike hKc_35⟩⟩ rfl rfl hl.1 rfl (lv_room (Nat.le_of_ble_eq_true rfl)) dX12_digest_56 ⟨Nat.le_of_ble_eq_true rfl, Nat.le_of_ble_eq_true rfl⟩)) (fun r_36 hw_37 => ?_)
    refine lv_lstore_n (lv' := [(1, .long r_36), (3, .int (nI k_1)), (0, .ref mo)]) hx hb dX12_digest_59 rfl hl (by decide) rfl (fun ls hl => ?_)
    refine lv_aload_n hx hb dX12_digest_60 rfl (lv_at hl 2 rfl) ?_
    refine lv_lload_n hx hb dX12_digest_61 rfl (lv_at hl 0 rfl) ?_
    refine lv_bipush (v := 30) hx hb dX12_digest_62 (by decide) ?_
    refine lv_iconst (v := 4) hx hb dX12_digest_64 (by decide) ?_
    refine lv_aload_n hx hb dX12_digest_65 rfl (lv_at hl 2 rfl) ?_
    refine va_get (D := (dC, dI)) (ci := 12) (v := .ref nw) (C := RX12) (T := TX12) (N := 24) hx hb hts iw_m_digest_X12 hown hK hP 0 rfl rfl 0 (by decide) (hts (.fieldLink RX12 7 "ThriceCountedModel" "now" "[I") (by decide +kernel)) (fun _ h9 => h9) rfl dX12_digest_66 ?_
    refine lv_iconst (v := 2) hx hb dX12_digest_69 (by decide) ?_
    refine va_iald hx hb hK hP 1 0 rfl rfl (show ¬ ((2 : Int32) < 0 ∨ 350 ≤ (2 : Int32).toNatClampNeg) by decide) dX12_digest_70 ?_
    obtain ⟨j_38, hj_39, ej_40⟩ := hOn.nat (K := 2) (n := 8) (by omega) (show tz_b 2 = (0, 8) from by decide)
    refine tz_i (nI j_38) ej_40 ?_
    refine lv_imul hx hb dX12_digest_71 ?_
    refine tz_i (nI (4 * j_38)) (pk_mul 4 j_38) ?_
    have hPc_41 := hP.sub (ws' := [(mo, .inr (12, [.ref nw, .ref kp, .ref ik, .ref mr, .long la_, .long lb_, .ref mw, .long lc_, .int ti_, .int cb_, .long ld_, .long le_, .ref mq, .ref mz, .ref my, .int sm_, .ref mb, .int bl_, .int ta_, .int tl_, .int tk_, .int vl_, .ref mx, .ref mv])), (nw, .inl (cn_, 350, .inl fn))]) [0, 1] rfl
    have hKc_42 := hK.sub (tys' := [(cn_, .int)]) [0] rfl
    refine vp_callSl (va_Run.run (va_runV (As := [.long r_36, .int 30, .int (nI (4 * j_38))]) (rest := []) ⟨hx, hb, hml, hown, hts⟩ (m_sums l dC dI mo nw kp ik mr la_ lb_ mw lc_ ti_ cb_ ld_ le_ mq mz my sm_ mb bl_ ta_ tl_ tk_ vl_ mx mv cn_ fn r_36 30 (4 * j_38) hOn (by omega)) (cwV 3 hts gX12_digest_X12_sums rfl rfl rfl (by decide +kernel) ⟨Nat.le_of_ble_eq_true rfl, Nat.le_of_ble_eq_true rfl⟩) ⟨fun a U g mk q => by obtain ⟨q0, qP, qK⟩ := q; exact ⟨q0, qP, va_K.moved (u := U) (U := U.calling g mk a) (Vm.Alike.refl U.vm) qK⟩, va_recv hK hP (ci := 12) (q0 := 0) rfl rfl, fun U hU hW => ⟨rfl, by rw [hU]; exact hPc_41, va_K.moved hW.alike hKc_42⟩⟩ rfl rfl hl.1 rfl (lv_room (Nat.le_of_ble_eq_true rfl)) dX12_digest_72 ⟨Nat.le_of_ble_eq_true rfl, Nat.le_of_ble_eq_true rfl⟩)) (fun r_43 hw_44 => ?_)
    refine lv_lstore_n (lv' := [(1, .long r_43), (3, .int (nI k_1)), (0, .ref mo)]) hx hb dX12_digest_75 rfl hl (by decide) rfl (fun ls hl => ?_)
    refine lv_aload_n hx hb dX12_digest_76 rfl (lv_at hl 2 rfl) ?_
    refine lv_lload_n hx hb dX12_digest_77 rfl (lv_at hl 0 rfl) ?_
    refine lv_bipush (v := 62) hx hb dX12_digest_78 (by decide) ?_
    refine lv_iconst (v := 4) hx hb dX12_digest_80 (by decide) ?_
    refine lv_aload_n hx hb dX12_digest_81 rfl (lv_at hl 2 rfl) ?_
    refine va_get (D := (dC, dI)) (ci := 12) (v := .ref nw) (C := RX12) (T := TX12) (N := 24) hx hb hts iw_m_digest_X12 hown hK hP 0 rfl rfl 0 (by decide) (hts (.fieldLink RX12 7 "ThriceCountedModel" "now" "[I") (by decide +kernel)) (fun _ h9 => h9) rfl dX12_digest_82 ?_
    refine lv_iconst (v := 3) hx hb dX12_digest_85 (by decide) ?_
    refine va_iald hx hb hK hP 1 0 rfl rfl (show ¬ ((3 : Int32) < 0 ∨ 350 ≤ (3 : Int32).toNatClampNeg) by decide) dX12_digest_86 ?_
    obtain ⟨j_45, hj_46, ej_47⟩ := hOn.nat (K := 3) (n := 6) (by omega) (show tz_b 3 = (0, 6) from by decide)
    refine tz_i (nI j_45) ej_47 ?_
    refine lv_imul hx hb dX12_digest_87 ?_
    refine tz_i (nI (4 * j_45)) (pk_mul 4 j_45) ?_
    have hPc_48 := hP.sub (ws' := [(mo, .inr (12, [.ref nw, .ref kp, .ref ik, .ref mr, .long la_, .long lb_, .ref mw, .long lc_, .int ti_, .int cb_, .long ld_, .long le_, .ref mq, .ref mz, .ref my, .int sm_, .ref mb, .int bl_, .int ta_, .int tl_, .int tk_, .int vl_, .ref mx, .ref mv])), (nw, .inl (cn_, 350, .inl fn))]) [0, 1] rfl
    have hKc_49 := hK.sub (tys' := [(cn_, .int)]) [0] rfl
    refine vp_callSl (va_Run.run (va_runV (As := [.long r_43, .int 62, .int (nI (4 * j_45))]) (rest := []) ⟨hx, hb, hml, hown, hts⟩ (m_sums l dC dI mo nw kp ik mr la_ lb_ mw lc_ ti_ cb_ ld_ le_ mq mz my sm_ mb bl_ ta_ tl_ tk_ vl_ mx mv cn_ fn r_43 62 (4 * j_45) hOn (by omega)) (cwV 3 hts gX12_digest_X12_sums rfl rfl rfl (by decide +kernel) ⟨Nat.le_of_ble_eq_true rfl, Nat.le_of_ble_eq_true rfl⟩) ⟨fun a U g mk q => by obtain ⟨q0, qP, qK⟩ := q; exact ⟨q0, qP, va_K.moved (u := U) (U := U.calling g mk a) (Vm.Alike.refl U.vm) qK⟩, va_recv hK hP (ci := 12) (q0 := 0) rfl rfl, fun U hU hW => ⟨rfl, by rw [hU]; exact hPc_48, va_K.moved hW.alike hKc_49⟩⟩ rfl rfl hl.1 rfl (lv_room (Nat.le_of_ble_eq_true rfl)) dX12_digest_88 ⟨Nat.le_of_ble_eq_true rfl, Nat.le_of_ble_eq_true rfl⟩)) (fun r_50 hw_51 => ?_)
    refine lv_lstore_n (lv' := [(1, .long r_50), (3, .int (nI k_1)), (0, .ref mo)]) hx hb dX12_digest_91 rfl hl (by decide) rfl (fun ls hl => ?_)
    refine lv_ldc2 hx hb hown (hts (.constantLong RX12 316 (31)) (by decide +kernel)) dX12_digest_92 ?_
    refine lv_ldc2 hx hb hown (hts (.constantLong RX12 316 (31)) (by decide +kernel)) dX12_digest_95 ?_
    refine lv_lload_n hx hb dX12_digest_98 rfl (lv_at hl 0 rfl) ?_
    refine lv_lmul hx hb dX12_digest_99 ?_
    refine lv_topl (fun x_52 _ => ?_)
    refine lv_aload_n hx hb dX12_digest_100 rfl (lv_at hl 2 rfl) ?_
    refine va_get (D := (dC, dI)) (ci := 12) (v := .long la_) (C := RX12) (T := TX12) (N := 24) hx hb hts iw_m_digest_X12 hown hK hP 0 rfl rfl 4 (by decide) (hts (.fieldLink RX12 148 "ThriceCountedModel" "above" "J") (by decide +kernel)) (fun _ h9 => h9) rfl dX12_digest_101 ?_
    refine lv_ladd hx hb dX12_digest_104 ?_
    refine lv_topl (fun x_53 _ => ?_)
    refine lv_lmul hx hb dX12_digest_105 ?_
    refine lv_topl (fun x_54 _ => ?_)
    refine lv_aload_n hx hb dX12_digest_106 rfl (lv_at hl 2 rfl) ?_
    refine va_get (D := (dC, dI)) (ci := 12) (v := .long lb_) (C := RX12) (T := TX12) (N := 24) hx hb hts iw_m_digest_X12 hown hK hP 0 rfl rfl 5 (by decide) (hts (.fieldLink RX12 23 "ThriceCountedModel" "below" "J") (by decide +kernel)) (fun _ h9 => h9) rfl dX12_digest_107 ?_
    refine lv_ladd hx hb dX12_digest_110 ?_
    refine lv_topl (fun x_55 _ => ?_)
    exact W.lret (v := x_55) hx hb hr (fun t ht hW => ⟨x_55, rfl, trivial, ht⟩) (fun _ h => absurd h List.not_mem_nil) dX12_digest_111
  · have hn_56 : ¬ 6 ≤ k_1 := fun q => c_22 ((nI_leI (a := 6) (b := k_1) (by omega) (by omega)).mpr q)
    refine lv_ldc2 hx hb hown (hts (.constantLong RX12 316 (31)) (by decide +kernel)) dX12_digest_12 ?_
    refine lv_lload_n hx hb dX12_digest_15 rfl (lv_at hl 1 rfl) ?_
    refine lv_lmul hx hb dX12_digest_16 ?_
    refine lv_topl (fun x_57 _ => ?_)
    refine lv_aload_n hx hb dX12_digest_17 rfl (lv_at hl 2 rfl) ?_
    refine lv_iload_n hx hb dX12_digest_18 rfl (lv_at hl 0 rfl) ?_
    have hPc_58 := hP.sub (ws' := [(mo, .inr (12, [.ref nw, .ref kp, .ref ik, .ref mr, .long la_, .long lb_, .ref mw, .long lc_, .int ti_, .int cb_, .long ld_, .long le_, .ref mq, .ref mz, .ref my, .int sm_, .ref mb, .int bl_, .int ta_, .int tl_, .int tk_, .int vl_, .ref mx, .ref mv])), (nw, .inl (cn_, 350, .inl fn))]) [0, 1] rfl
    have hKc_59 := hK.sub (tys' := [(cn_, .int)]) [0] rfl
    refine vp_callSi (va_Run.run (va_runV (As := [.int (nI k_1)]) (rest := [.long x_57]) ⟨hx, hb, hml, hown, hts⟩ (m_counted l dC dI mo nw kp ik mr la_ lb_ mw lc_ ti_ cb_ ld_ le_ mq mz my sm_ mb bl_ ta_ tl_ tk_ vl_ mx mv cn_ fn k_1 hOn (by omega)) (cwV 1 hts gX12_digest_X12_counted rfl rfl rfl (by decide +kernel) ⟨Nat.le_of_ble_eq_true rfl, Nat.le_of_ble_eq_true rfl⟩) ⟨fun a U g mk q => by obtain ⟨q0, qP, qK⟩ := q; exact ⟨q0, qP, va_K.moved (u := U) (U := U.calling g mk a) (Vm.Alike.refl U.vm) qK⟩, va_recv hK hP (ci := 12) (q0 := 0) rfl rfl, fun U hU hW => ⟨rfl, by rw [hU]; exact hPc_58, va_K.moved hW.alike hKc_59⟩⟩ rfl rfl hl.1 rfl (lv_room (Nat.le_of_ble_eq_true rfl)) dX12_digest_19 ⟨Nat.le_of_ble_eq_true rfl, Nat.le_of_ble_eq_true rfl⟩)) (fun r_60 hw_61 => ?_)
    refine lv_i2l (v := r_60.toInt64) hx hb dX12_digest_22 rfl ?_
    refine lv_ladd hx hb dX12_digest_23 ?_
    refine lv_topl (fun x_62 _ => ?_)
    refine lv_lstore_n (lv' := [(1, .long x_62), (3, .int (nI k_1)), (0, .ref mo)]) hx hb dX12_digest_24 rfl hl (by decide) rfl (fun ls hl => ?_)
    refine lv_iinc (v := (nI (k_1 + 1))) (lv' := [(3, .int (nI (k_1 + 1))), (1, .long x_62), (0, .ref mo)]) hx hb dX12_digest_25 hl (k := 1) rfl (nI_add k_1 1) (by decide) rfl (fun ls hl => ?_)
    refine lv_goto (tgt := 6) hx hb dX12_digest_28 (by decide) ?_
    exact ih_21 ((k_1 + 1), x_62, ls) ⟨by dsimp only; omega, lv_sub hl [0, 1, 2] rfl⟩ (by dsimp only; omega)
set_option maxRecDepth 20000 in
theorem ggX12_image_X12_in : GoodIn wsX12_image wsX12_in := goodIn_r _ [7] (by decide +kernel) (by decide +kernel)
set_option maxRecDepth 20000 in
theorem gX12_image_X12_in : GoodIn wsX12_image (va_wsS RX12 49 yX12_in wsX12_in) := goodIn_app (goodIn_of _ (by decide +kernel)) ggX12_image_X12_in
set_option maxRecDepth 20000 in
theorem ggX12_image_X12_bad : GoodIn wsX12_image wsX12_bad := goodIn_r _ [11, 12, 13, 14, 15, 16, 17, 18, 19, 20, 21, 22, 23, 24, 25, 26, 27, 28, 29, 30, 31, 32, 33, 34, 35, 36] (by decide +kernel) (by decide +kernel)
set_option maxRecDepth 20000 in
theorem gX12_image_X12_bad : GoodIn wsX12_image (wsV RX12 61 RX12 yX12_bad wsX12_bad) := goodIn_app (goodIn_of _ (by decide +kernel)) ggX12_image_X12_bad
theorem dX12_image_0 : decode cX12_image 0 = .ok (.iload_n 1, 1) := by decide +kernel
theorem dX12_image_1 : decode cX12_image 1 = .ok (.i2l, 1) := by decide +kernel
theorem dX12_image_2 : decode cX12_image 2 = .ok (.lconst 0, 1) := by decide +kernel
theorem dX12_image_3 : decode cX12_image 3 = .ok (.lconst 1, 1) := by decide +kernel
theorem dX12_image_4 : decode cX12_image 4 = .ok (.invokestatic 49, 3) := by decide +kernel
theorem dX12_image_7 : decode cX12_image 7 = .ok (.ifCond .ne 10, 3) := by decide +kernel
theorem dX12_image_17 : decode cX12_image 17 = .ok (.iconst 0, 1) := by decide +kernel
theorem dX12_image_18 : decode cX12_image 18 = .ok (.istore_n 2, 1) := by decide +kernel
theorem dX12_image_19 : decode cX12_image 19 = .ok (.iload_n 2, 1) := by decide +kernel
theorem dX12_image_20 : decode cX12_image 20 = .ok (.sipush 350, 3) := by decide +kernel
theorem dX12_image_23 : decode cX12_image 23 = .ok (.if_icmp .ge 27, 3) := by decide +kernel
theorem dX12_image_26 : decode cX12_image 26 = .ok (.aload_n 0, 1) := by decide +kernel
theorem dX12_image_27 : decode cX12_image 27 = .ok (.getfield 13, 3) := by decide +kernel
theorem dX12_image_30 : decode cX12_image 30 = .ok (.sipush 350, 3) := by decide +kernel
theorem dX12_image_33 : decode cX12_image 33 = .ok (.iload_n 1, 1) := by decide +kernel
theorem dX12_image_34 : decode cX12_image 34 = .ok (.imul, 1) := by decide +kernel
theorem dX12_image_35 : decode cX12_image 35 = .ok (.iload_n 2, 1) := by decide +kernel
theorem dX12_image_36 : decode cX12_image 36 = .ok (.iadd, 1) := by decide +kernel
theorem dX12_image_37 : decode cX12_image 37 = .ok (.aload_n 0, 1) := by decide +kernel
theorem dX12_image_38 : decode cX12_image 38 = .ok (.getfield 7, 3) := by decide +kernel
theorem dX12_image_41 : decode cX12_image 41 = .ok (.iload_n 2, 1) := by decide +kernel
theorem dX12_image_42 : decode cX12_image 42 = .ok (.iaload, 1) := by decide +kernel
theorem dX12_image_43 : decode cX12_image 43 = .ok (.iastore, 1) := by decide +kernel
theorem dX12_image_44 : decode cX12_image 44 = .ok (.iinc 2 1, 3) := by decide +kernel
theorem dX12_image_47 : decode cX12_image 47 = .ok (.goto (-28), 3) := by decide +kernel
theorem dX12_image_50 : decode cX12_image 50 = .ok (.aload_n 0, 1) := by decide +kernel
theorem dX12_image_51 : decode cX12_image 51 = .ok (.getfield 16, 3) := by decide +kernel
theorem dX12_image_54 : decode cX12_image 54 = .ok (.iload_n 1, 1) := by decide +kernel
theorem dX12_image_55 : decode cX12_image 55 = .ok (.iconst 1, 1) := by decide +kernel
theorem dX12_image_56 : decode cX12_image 56 = .ok (.bastore, 1) := by decide +kernel
theorem dX12_image_57 : decode cX12_image 57 = .ok (.iconst 1, 1) := by decide +kernel
theorem dX12_image_58 : decode cX12_image 58 = .ok (.ireturn, 1) := by decide +kernel
theorem dX12_image_10 : decode cX12_image 10 = .ok (.aload_n 0, 1) := by decide +kernel
theorem dX12_image_11 : decode cX12_image 11 = .ok (.bipush (-2), 2) := by decide +kernel
theorem dX12_image_13 : decode cX12_image 13 = .ok (.invokevirtual 61, 3) := by decide +kernel
theorem dX12_image_16 : decode cX12_image 16 = .ok (.ireturn, 1) := by decide +kernel
set_option maxRecDepth 20000 in
theorem iw_m_image_X12 : ∀ w ∈ wsX120, w ∈ wsX12_image := by decide +kernel
set_option maxHeartbeats 4000000 in
set_option maxRecDepth 100000 in
theorem m_image (l : Launch) (dC : Nat → ClassId) (dI : Nat → Nat → Nat) (mo : Nat) (nw : Nat) (kp : Nat) (ik : Nat) (mr : Nat) (la_ : Int64) (lb_ : Int64) (mw : Nat) (lc_ : Int64) (ti_ : Int32) (cb_ : Int32) (ld_ : Int64) (le_ : Int64) (mq : Nat) (mz : Nat) (my : Nat) (sm_ : Int32) (mb : Nat) (bl_ : Int32) (ta_ : Int32) (tl_ : Int32) (tk_ : Int32) (vl_ : Int32) (mx : Nat) (mv : Nat) (cn_ : ClassId) (fn : Nat → Int32) (ck_ : ClassId) (fk_ : Nat → Int32) (ci_ : ClassId) (fi_ : Nat → Int32) (cr_ : ClassId) (fr_ : Nat → Int32) (na : Int32) (sz : Nat) (hOn : tz_OK 350 fn) (hOk : tz_KO fk_) : Met l yX12_image wsX12_image ({ frames := 1, cells := 0, slots := 0, locals := 25 }) (va_Pc [.ref mo, .int na] (fun U => U.heap.size = sz ∧ va_P (dC, dI) vwCl [(mo, .inr (12, [.ref nw, .ref kp, .ref ik, .ref mr, .long la_, .long lb_, .ref mw, .long lc_, .int ti_, .int cb_, .long ld_, .long le_, .ref mq, .ref mz, .ref my, .int sm_, .ref mb, .int bl_, .int ta_, .int tl_, .int tk_, .int vl_, .ref mx, .ref mv])), (nw, .inl (cn_, 350, .inl fn)), (kp, .inl (ck_, 700, .inl fk_)), (ik, .inl (ci_, 2, .inl fi_)), (mr, .inl (cr_, 3, .inl fr_))] U.heap ∧ va_K (dC, dI) vwCl [(cn_, .int), (ck_, .int), (ci_, .boolean), (cr_, .int)] U ∧ va_D (fun _ => True) [(mo, .inr (12, [.ref nw, .ref kp, .ref ik, .ref mr, .long la_, .long lb_, .ref mw, .long lc_, .int ti_, .int cb_, .long ld_, .long le_, .ref mq, .ref mz, .ref my, .int sm_, .ref mb, .int bl_, .int ta_, .int tl_, .int tk_, .int vl_, .ref mx, .ref mv])), (nw, .inl (cn_, 350, .inl fn)), (kp, .inl (ck_, 700, .inl fk_)), (ik, .inl (ci_, 2, .inl fi_)), (mr, .inl (cr_, 3, .inl fr_))])) (va_Qi (fun (r : Int32) (_ : Unit) => r = (if 0 ≤ na ∧ na ≤ 1 then 1 else (-2))) (fun _ t => ∃ (gk_ : Nat → Int32) (gi_ : Nat → Int32) (gr_ : Nat → Int32), (tz_KO gk_) ∧ va_P (dC, dI) vwCl [(mo, .inr (12, [.ref nw, .ref kp, .ref ik, .ref mr, .long la_, .long lb_, .ref mw, .long lc_, .int ti_, .int cb_, .long ld_, .long le_, .ref mq, .ref mz, .ref my, .int sm_, .ref mb, .int bl_, .int ta_, .int tl_, .int tk_, .int vl_, .ref mx, .ref mv])), (nw, .inl (cn_, 350, .inl fn)), (kp, .inl (ck_, 700, .inl gk_)), (ik, .inl (ci_, 2, .inl gi_)), (mr, .inl (cr_, 3, .inl gr_))] t.heap ∧ va_K (dC, dI) vwCl [(cn_, .int), (ck_, .int), (ci_, .boolean), (cr_, .int)] t ∧ va_D (va_A [(mo, .inr (12, [.ref nw, .ref kp, .ref ik, .ref mr, .long la_, .long lb_, .ref mw, .long lc_, .int ti_, .int cb_, .long ld_, .long le_, .ref mq, .ref mz, .ref my, .int sm_, .ref mb, .int bl_, .int ta_, .int tl_, .int tk_, .int vl_, .ref mx, .ref mv])), (nw, .inl (cn_, 350, .inl fn)), (kp, .inl (ck_, 700, .inl fk_)), (ik, .inl (ci_, 2, .inl fi_)), (mr, .inl (cr_, 3, .inl fr_))] sz) [(mo, .inr (12, [.ref nw, .ref kp, .ref ik, .ref mr, .long la_, .long lb_, .ref mw, .long lc_, .int ti_, .int cb_, .long ld_, .long le_, .ref mq, .ref mz, .ref my, .int sm_, .ref mb, .int bl_, .int ta_, .int tl_, .int tk_, .int vl_, .ref mx, .ref mv])), (nw, .inl (cn_, 350, .inl fn)), (kp, .inl (ck_, 700, .inl gk_)), (ik, .inl (ci_, 2, .inl gi_)), (mr, .inl (cr_, 3, .inl gr_))]) (va_A [(mo, .inr (12, [.ref nw, .ref kp, .ref ik, .ref mr, .long la_, .long lb_, .ref mw, .long lc_, .int ti_, .int cb_, .long ld_, .long le_, .ref mq, .ref mz, .ref my, .int sm_, .ref mb, .int bl_, .int ta_, .int tl_, .int tk_, .int vl_, .ref mx, .ref mv])), (nw, .inl (cn_, 350, .inl fn)), (kp, .inl (ck_, 700, .inl fk_)), (ik, .inl (ci_, 2, .inl fi_)), (mr, .inl (cr_, 3, .inl fr_))] sz)) 0 0 (va_A [(mo, .inr (12, [.ref nw, .ref kp, .ref ik, .ref mr, .long la_, .long lb_, .ref mw, .long lc_, .int ti_, .int cb_, .long ld_, .long le_, .ref mq, .ref mz, .ref my, .int sm_, .ref mb, .int bl_, .int ta_, .int tl_, .int tk_, .int vl_, .ref mx, .ref mv])), (nw, .inl (cn_, 350, .inl fn)), (kp, .inl (ck_, 700, .inl fk_)), (ik, .inl (ci_, 2, .inl fi_)), (mr, .inl (cr_, 3, .inl fr_))] sz) := by
  refine Met.ofW (cc := cX12_image) (maxL := 3) (ret := (some .int)) (by decide) rfl ?_
  intro p e s m args below meth c s₁ B hml hv
  obtain ⟨rfl, hsz, hP, hK, hD0⟩ := hv
  have hx := B.exec
  have hb := B.bytes
  have hr := B.returns
  have hts := atoms_spec (ws := wsX12_image) B.pre
  have hown : s.vm.findClass RX12 = some m.cls := findClass_of_methodNamed B.named
  have hlocks := B.notSynchronized
  subst hsz
  have hD := hD0.self (sz := s.heap.size)
  generalize hAe : va_A [(mo, .inr (12, [.ref nw, .ref kp, .ref ik, .ref mr, .long la_, .long lb_, .ref mw, .long lc_, .int ti_, .int cb_, .long ld_, .long le_, .ref mq, .ref mz, .ref my, .int sm_, .ref mb, .int bl_, .int ta_, .int tl_, .int tk_, .int vl_, .ref mx, .ref mv])), (nw, .inl (cn_, 350, .inl fn)), (kp, .inl (ck_, 700, .inl fk_)), (ik, .inl (ci_, 2, .inl fi_)), (mr, .inl (cr_, 3, .inl fr_))] s.heap.size = A at hD ⊢
  have hA : ∀ q : Nat, s.heap.size ≤ q → A q := fun q h => by rw [← hAe]; exact Or.inr h
  have hS : va_S A s.heap s.heap [] := va_S.rf
  have hP : va_P (dC, dI) vwCl [(mo, .inr (12, [.ref nw, .ref kp, .ref ik, .ref mr, .long la_, .long lb_, .ref mw, .long lc_, .int ti_, .int cb_, .long ld_, .long le_, .ref mq, .ref mz, .ref my, .int sm_, .ref mb, .int bl_, .int ta_, .int tl_, .int tk_, .int vl_, .ref mx, .ref mv])), (nw, .inl (cn_, 350, .inl fn)), (kp, .inl (ck_, 700, .inl fk_)), (ik, .inl (ci_, 2, .inl fi_)), (mr, .inl (cr_, 3, .inl fr_))] s.heap := hP
  have hl := lv_entry ([.ref mo, .int na]) (n := 3) (Nat.le_of_ble_eq_true rfl)
  rw [lg_entry_eq]
  generalize (lg_sl ([.ref mo, .int na]) ++ List.replicate (3 - (lg_sl ([.ref mo, .int na])).length) Slot.unset).toArray = ls at hl ⊢
  have hl : lv_has ls 3 [(0, .ref mo), (1, .int na)] := hl
  have hk_1 : tz_Co fn fk_ 0 0 fk_ := tz_Co.rf
  have hk_2 : tz_Co fn fk_ 350 0 fk_ := tz_Co.rf
  refine lv_iload_n hx hb dX12_image_0 rfl (lv_at hl 1 rfl) ?_
  refine lv_i2l (v := na.toInt64) hx hb dX12_image_1 rfl ?_
  refine lv_lconst (v := 0) hx hb dX12_image_2 (by decide) ?_
  refine lv_lconst (v := 1) hx hb dX12_image_3 (by decide) ?_
  refine vp_callSi (va_Run.run (va_runS (As := [.long na.toInt64, .long 0, .long 1]) (rest := []) ⟨hx, hb, hml, hown, hts⟩ (m_in l dC dI na.toInt64 0 1) (va_cwS 3 hts gX12_image_X12_in rfl rfl rfl (by decide +kernel) ⟨Nat.le_of_ble_eq_true rfl, Nat.le_of_ble_eq_true rfl⟩) ⟨fun a U g mk q => ⟨q.1, trivial⟩, fun U hU hW => ⟨rfl, trivial⟩⟩ rfl rfl hl.1 rfl (lv_room (Nat.le_of_ble_eq_true rfl)) dX12_image_4 ⟨Nat.le_of_ble_eq_true rfl, Nat.le_of_ble_eq_true rfl⟩)) (fun r_3 hw_4 => ?_)
  by_cases hc_5 : 0 ≤ na ∧ na ≤ 1
  · obtain rfl : 1 = r_3 := (hw_4.trans (if_pos ((tz_in64 (by first | rfl | decide) rfl (by first | rfl | decide)).mpr hc_5))).symm
    obtain ⟨j_6, hj_7, hj_8, rfl⟩ := tz_pickL (l := 0) (n := 1) hc_5 (by decide) (by decide)
    refine lv_if_ne (tgt := 17) hx hb dX12_image_7 (by decide) (fun c_9 => ?_) (fun c_9 => ?_)
    · rcases (show j_6 = 0 ∨ j_6 = 1 by omega) with rfl | rfl
      · have hl : lv_has ls 3 [(0, .ref mo), (1, .int 0)] := hl
        refine lv_iconst (v := 0) hx hb dX12_image_17 (by decide) ?_
        refine lv_istore_n (lv' := [(2, .int 0), (0, .ref mo), (1, .int 0)]) hx hb dX12_image_18 rfl hl (by decide) rfl (fun ls hl => ?_)
        refine tz_while (σ := Nat × (Nat → Int32) × Heap × List Loc × Array Slot) (fun x => W p l e _ s m _ below meth c x.2.2.1 x.2.2.2.1 _ _ _ (F0 m 19 x.2.2.2.2 [])) (fun x => tz_Co fn fk_ 0 x.1 x.2.1 ∧ x.1 ≤ 350 ∧ va_P (dC, dI) vwCl [(mo, .inr (12, [.ref nw, .ref kp, .ref ik, .ref mr, .long la_, .long lb_, .ref mw, .long lc_, .int ti_, .int cb_, .long ld_, .long le_, .ref mq, .ref mz, .ref my, .int sm_, .ref mb, .int bl_, .int ta_, .int tl_, .int tk_, .int vl_, .ref mx, .ref mv])), (nw, .inl (cn_, 350, .inl fn)), (kp, .inl (ck_, 700, .inl x.2.1)), (ik, .inl (ci_, 2, .inl fi_)), (mr, .inl (cr_, 3, .inl fr_))] x.2.2.1 ∧ va_D A [(mo, .inr (12, [.ref nw, .ref kp, .ref ik, .ref mr, .long la_, .long lb_, .ref mw, .long lc_, .int ti_, .int cb_, .long ld_, .long le_, .ref mq, .ref mz, .ref my, .int sm_, .ref mb, .int bl_, .int ta_, .int tl_, .int tk_, .int vl_, .ref mx, .ref mv])), (nw, .inl (cn_, 350, .inl fn)), (kp, .inl (ck_, 700, .inl x.2.1)), (ik, .inl (ci_, 2, .inl fi_)), (mr, .inl (cr_, 3, .inl fr_))] ∧ va_S A s.heap x.2.2.1 x.2.2.2.1 ∧ lv_has x.2.2.2.2 3 [(2, .int (nI x.1)), (0, .ref mo), (1, .int 0)]) (fun x => 350 - x.1) ?_ (0, fk_, s.heap, [], ls) ⟨hk_1, by (try dsimp only); omega, hP, hD, hS, hl⟩
        rintro ⟨k_10, f_18, H, locs, ls⟩ ⟨hi_26_0, hi_27_1, hP, hD, hS, hl⟩ ih_28
        dsimp only at hi_26_0 hi_27_1 hP hD hS hl ih_28 ⊢
        refine lv_iload_n hx hb dX12_image_19 rfl (lv_at hl 0 rfl) ?_
        refine lv_sipush (v := 350) hx hb dX12_image_20 (by decide) ?_
        refine lv_icmp_ge (tgt := 50) hx hb dX12_image_23 (by decide) (fun c_29 => ?_) (fun c_29 => ?_)
        · have hn_30 : 350 ≤ k_10 := (nI_leI (a := 350) (b := k_10) (by omega) (by omega)).mp c_29
          refine lv_aload_n hx hb dX12_image_50 rfl (lv_at hl 1 rfl) ?_
          refine va_get (D := (dC, dI)) (ci := 12) (v := .ref ik) (C := RX12) (T := TX12) (N := 24) hx hb hts iw_m_image_X12 hown hK hP 0 rfl rfl 2 (by decide) (hts (.fieldLink RX12 16 "ThriceCountedModel" "isKept" "[Z") (by decide +kernel)) (fun _ h9 => h9) rfl dX12_image_51 ?_
          refine lv_iload_n hx hb dX12_image_54 rfl (lv_at hl 2 rfl) ?_
          refine lv_iconst (v := 1) hx hb dX12_image_55 (by decide) ?_
          refine va_zast hx hb hK hP hD hS 3 2 rfl rfl (show ¬ ((0 : Int32) < 0 ∨ 2 ≤ (0 : Int32).toNatClampNeg) by decide) dX12_image_56 (fun H locs hP hD hS => ?_)
          generalize (upd fi_ (Int32.toNatClampNeg 0) (vp_nar .boolean 1)) = f_31 at hP hD
          have hP : va_P (dC, dI) vwCl [(mo, .inr (12, [.ref nw, .ref kp, .ref ik, .ref mr, .long la_, .long lb_, .ref mw, .long lc_, .int ti_, .int cb_, .long ld_, .long le_, .ref mq, .ref mz, .ref my, .int sm_, .ref mb, .int bl_, .int ta_, .int tl_, .int tk_, .int vl_, .ref mx, .ref mv])), (nw, .inl (cn_, 350, .inl fn)), (kp, .inl (ck_, 700, .inl f_18)), (ik, .inl (ci_, 2, .inl f_31)), (mr, .inl (cr_, 3, .inl fr_))] H := hP
          have hD : va_D A [(mo, .inr (12, [.ref nw, .ref kp, .ref ik, .ref mr, .long la_, .long lb_, .ref mw, .long lc_, .int ti_, .int cb_, .long ld_, .long le_, .ref mq, .ref mz, .ref my, .int sm_, .ref mb, .int bl_, .int ta_, .int tl_, .int tk_, .int vl_, .ref mx, .ref mv])), (nw, .inl (cn_, 350, .inl fn)), (kp, .inl (ck_, 700, .inl f_18)), (ik, .inl (ci_, 2, .inl f_31)), (mr, .inl (cr_, 3, .inl fr_))] := hD
          refine lv_iconst (v := 1) hx hb dX12_image_57 (by decide) ?_
          have hP9 := hP.sub (ws' := [(mo, .inr (12, [.ref nw, .ref kp, .ref ik, .ref mr, .long la_, .long lb_, .ref mw, .long lc_, .int ti_, .int cb_, .long ld_, .long le_, .ref mq, .ref mz, .ref my, .int sm_, .ref mb, .int bl_, .int ta_, .int tl_, .int tk_, .int vl_, .ref mx, .ref mv])), (nw, .inl (cn_, 350, .inl fn)), (kp, .inl (ck_, 700, .inl f_18)), (ik, .inl (ci_, 2, .inl f_31)), (mr, .inl (cr_, 3, .inl fr_))]) [0, 1, 2, 3, 4] rfl
          have hD9 := hD.sub (ws' := [(mo, .inr (12, [.ref nw, .ref kp, .ref ik, .ref mr, .long la_, .long lb_, .ref mw, .long lc_, .int ti_, .int cb_, .long ld_, .long le_, .ref mq, .ref mz, .ref my, .int sm_, .ref mb, .int bl_, .int ta_, .int tl_, .int tk_, .int vl_, .ref mx, .ref mv])), (nw, .inl (cn_, 350, .inl fn)), (kp, .inl (ck_, 700, .inl f_18)), (ik, .inl (ci_, 2, .inl f_31)), (mr, .inl (cr_, 3, .inl fr_))]) [0, 1, 2, 3, 4] (by decide) rfl
          have hK9 := hK.sub (tys' := [(cn_, .int), (ck_, .int), (ci_, .boolean), (cr_, .int)]) [0, 1, 2, 3] rfl
          exact W.iret (v := 1) hx hb hr (fun t ht hW => ⟨⟨1, (), rfl, (if_pos (by decide)).symm, f_18, f_31, fr_, hOk.im0 hOn (hi_26_0.cast (by omega)), by rw [ht]; exact hP9, va_K.moved hW.alike hK9, hD9⟩, hS.F ht⟩) hS.2.2 dX12_image_58
        · have hn_32 : ¬ 350 ≤ k_10 := fun q => c_29 ((nI_leI (a := 350) (b := k_10) (by omega) (by omega)).mpr q)
          refine lv_aload_n hx hb dX12_image_26 rfl (lv_at hl 1 rfl) ?_
          refine va_get (D := (dC, dI)) (ci := 12) (v := .ref kp) (C := RX12) (T := TX12) (N := 24) hx hb hts iw_m_image_X12 hown hK hP 0 rfl rfl 1 (by decide) (hts (.fieldLink RX12 13 "ThriceCountedModel" "kept" "[I") (by decide +kernel)) (fun _ h9 => h9) rfl dX12_image_27 ?_
          refine lv_sipush (v := 350) hx hb dX12_image_30 (by decide) ?_
          refine lv_iload_n hx hb dX12_image_33 rfl (lv_at hl 2 rfl) ?_
          refine lv_imul hx hb dX12_image_34 ?_
          refine tz_i 0 (by decide) ?_
          refine lv_iload_n hx hb dX12_image_35 rfl (lv_at hl 0 rfl) ?_
          refine lv_iadd hx hb dX12_image_36 ?_
          refine tz_i (nI (0 + k_10)) (nI_add 0 k_10) ?_
          refine lv_aload_n hx hb dX12_image_37 rfl (lv_at hl 1 rfl) ?_
          refine va_get (D := (dC, dI)) (ci := 12) (v := .ref nw) (C := RX12) (T := TX12) (N := 24) hx hb hts iw_m_image_X12 hown hK hP 0 rfl rfl 0 (by decide) (hts (.fieldLink RX12 7 "ThriceCountedModel" "now" "[I") (by decide +kernel)) (fun _ h9 => h9) rfl dX12_image_38 ?_
          refine lv_iload_n hx hb dX12_image_41 rfl (lv_at hl 0 rfl) ?_
          refine va_iald hx hb hK hP 1 0 rfl rfl (vp_in_nI (n := k_10) (N := 350) (by omega) (by decide)) dX12_image_42 ?_
          refine lv_topi (fun x_33 ex_34 => ?_)
          have hb_35 : tz_bd k_10 x_33 := tz_bd_ld hOn (by omega) ex_34 (by omega)
          refine va_iast hx hb hK hP hD hS 2 1 rfl rfl (vp_in_nI (n := (0 + k_10)) (N := 700) (by omega) (by decide)) dX12_image_43 (fun H locs hP hD hS => ?_)
          have hk_37 : tz_Co fn fk_ 0 (k_10 + 1) (upd f_18 (Int32.toNatClampNeg (nI (0 + k_10))) x_33) := hi_26_0.step (by omega) (by omega) (tz_ldv (by omega) ex_34)
          generalize (upd f_18 (Int32.toNatClampNeg (nI (0 + k_10))) x_33) = f_36 at hP hD hk_37
          have hP : va_P (dC, dI) vwCl [(mo, .inr (12, [.ref nw, .ref kp, .ref ik, .ref mr, .long la_, .long lb_, .ref mw, .long lc_, .int ti_, .int cb_, .long ld_, .long le_, .ref mq, .ref mz, .ref my, .int sm_, .ref mb, .int bl_, .int ta_, .int tl_, .int tk_, .int vl_, .ref mx, .ref mv])), (nw, .inl (cn_, 350, .inl fn)), (kp, .inl (ck_, 700, .inl f_36)), (ik, .inl (ci_, 2, .inl fi_)), (mr, .inl (cr_, 3, .inl fr_))] H := hP
          have hD : va_D A [(mo, .inr (12, [.ref nw, .ref kp, .ref ik, .ref mr, .long la_, .long lb_, .ref mw, .long lc_, .int ti_, .int cb_, .long ld_, .long le_, .ref mq, .ref mz, .ref my, .int sm_, .ref mb, .int bl_, .int ta_, .int tl_, .int tk_, .int vl_, .ref mx, .ref mv])), (nw, .inl (cn_, 350, .inl fn)), (kp, .inl (ck_, 700, .inl f_36)), (ik, .inl (ci_, 2, .inl fi_)), (mr, .inl (cr_, 3, .inl fr_))] := hD
          refine lv_iinc (v := (nI (k_10 + 1))) (lv' := [(2, .int (nI (k_10 + 1))), (0, .ref mo), (1, .int 0)]) hx hb dX12_image_44 hl (k := 0) rfl (nI_add k_10 1) (by decide) rfl (fun ls hl => ?_)
          refine lv_goto (tgt := 19) hx hb dX12_image_47 (by decide) ?_
          exact ih_28 ((k_10 + 1), f_36, H, locs, ls) ⟨hk_37, by dsimp only; omega, hP, hD, hS, lv_sub hl [0, 1, 2] rfl⟩ (by dsimp only; omega)
      · have hl : lv_has ls 3 [(0, .ref mo), (1, .int 1)] := hl
        refine lv_iconst (v := 0) hx hb dX12_image_17 (by decide) ?_
        refine lv_istore_n (lv' := [(2, .int 0), (0, .ref mo), (1, .int 1)]) hx hb dX12_image_18 rfl hl (by decide) rfl (fun ls hl => ?_)
        refine tz_while (σ := Nat × (Nat → Int32) × Heap × List Loc × Array Slot) (fun x => W p l e _ s m _ below meth c x.2.2.1 x.2.2.2.1 _ _ _ (F0 m 19 x.2.2.2.2 [])) (fun x => tz_Co fn fk_ 350 x.1 x.2.1 ∧ x.1 ≤ 350 ∧ va_P (dC, dI) vwCl [(mo, .inr (12, [.ref nw, .ref kp, .ref ik, .ref mr, .long la_, .long lb_, .ref mw, .long lc_, .int ti_, .int cb_, .long ld_, .long le_, .ref mq, .ref mz, .ref my, .int sm_, .ref mb, .int bl_, .int ta_, .int tl_, .int tk_, .int vl_, .ref mx, .ref mv])), (nw, .inl (cn_, 350, .inl fn)), (kp, .inl (ck_, 700, .inl x.2.1)), (ik, .inl (ci_, 2, .inl fi_)), (mr, .inl (cr_, 3, .inl fr_))] x.2.2.1 ∧ va_D A [(mo, .inr (12, [.ref nw, .ref kp, .ref ik, .ref mr, .long la_, .long lb_, .ref mw, .long lc_, .int ti_, .int cb_, .long ld_, .long le_, .ref mq, .ref mz, .ref my, .int sm_, .ref mb, .int bl_, .int ta_, .int tl_, .int tk_, .int vl_, .ref mx, .ref mv])), (nw, .inl (cn_, 350, .inl fn)), (kp, .inl (ck_, 700, .inl x.2.1)), (ik, .inl (ci_, 2, .inl fi_)), (mr, .inl (cr_, 3, .inl fr_))] ∧ va_S A s.heap x.2.2.1 x.2.2.2.1 ∧ lv_has x.2.2.2.2 3 [(2, .int (nI x.1)), (0, .ref mo), (1, .int 1)]) (fun x => 350 - x.1) ?_ (0, fk_, s.heap, [], ls) ⟨hk_2, by (try dsimp only); omega, hP, hD, hS, hl⟩
        rintro ⟨k_38, f_46, H, locs, ls⟩ ⟨hi_54_0, hi_55_1, hP, hD, hS, hl⟩ ih_56
        dsimp only at hi_54_0 hi_55_1 hP hD hS hl ih_56 ⊢
        refine lv_iload_n hx hb dX12_image_19 rfl (lv_at hl 0 rfl) ?_
        refine lv_sipush (v := 350) hx hb dX12_image_20 (by decide) ?_
        refine lv_icmp_ge (tgt := 50) hx hb dX12_image_23 (by decide) (fun c_57 => ?_) (fun c_57 => ?_)
        · have hn_58 : 350 ≤ k_38 := (nI_leI (a := 350) (b := k_38) (by omega) (by omega)).mp c_57
          refine lv_aload_n hx hb dX12_image_50 rfl (lv_at hl 1 rfl) ?_
          refine va_get (D := (dC, dI)) (ci := 12) (v := .ref ik) (C := RX12) (T := TX12) (N := 24) hx hb hts iw_m_image_X12 hown hK hP 0 rfl rfl 2 (by decide) (hts (.fieldLink RX12 16 "ThriceCountedModel" "isKept" "[Z") (by decide +kernel)) (fun _ h9 => h9) rfl dX12_image_51 ?_
          refine lv_iload_n hx hb dX12_image_54 rfl (lv_at hl 2 rfl) ?_
          refine lv_iconst (v := 1) hx hb dX12_image_55 (by decide) ?_
          refine va_zast hx hb hK hP hD hS 3 2 rfl rfl (show ¬ ((1 : Int32) < 0 ∨ 2 ≤ (1 : Int32).toNatClampNeg) by decide) dX12_image_56 (fun H locs hP hD hS => ?_)
          generalize (upd fi_ (Int32.toNatClampNeg 1) (vp_nar .boolean 1)) = f_59 at hP hD
          have hP : va_P (dC, dI) vwCl [(mo, .inr (12, [.ref nw, .ref kp, .ref ik, .ref mr, .long la_, .long lb_, .ref mw, .long lc_, .int ti_, .int cb_, .long ld_, .long le_, .ref mq, .ref mz, .ref my, .int sm_, .ref mb, .int bl_, .int ta_, .int tl_, .int tk_, .int vl_, .ref mx, .ref mv])), (nw, .inl (cn_, 350, .inl fn)), (kp, .inl (ck_, 700, .inl f_46)), (ik, .inl (ci_, 2, .inl f_59)), (mr, .inl (cr_, 3, .inl fr_))] H := hP
          have hD : va_D A [(mo, .inr (12, [.ref nw, .ref kp, .ref ik, .ref mr, .long la_, .long lb_, .ref mw, .long lc_, .int ti_, .int cb_, .long ld_, .long le_, .ref mq, .ref mz, .ref my, .int sm_, .ref mb, .int bl_, .int ta_, .int tl_, .int tk_, .int vl_, .ref mx, .ref mv])), (nw, .inl (cn_, 350, .inl fn)), (kp, .inl (ck_, 700, .inl f_46)), (ik, .inl (ci_, 2, .inl f_59)), (mr, .inl (cr_, 3, .inl fr_))] := hD
          refine lv_iconst (v := 1) hx hb dX12_image_57 (by decide) ?_
          have hP9 := hP.sub (ws' := [(mo, .inr (12, [.ref nw, .ref kp, .ref ik, .ref mr, .long la_, .long lb_, .ref mw, .long lc_, .int ti_, .int cb_, .long ld_, .long le_, .ref mq, .ref mz, .ref my, .int sm_, .ref mb, .int bl_, .int ta_, .int tl_, .int tk_, .int vl_, .ref mx, .ref mv])), (nw, .inl (cn_, 350, .inl fn)), (kp, .inl (ck_, 700, .inl f_46)), (ik, .inl (ci_, 2, .inl f_59)), (mr, .inl (cr_, 3, .inl fr_))]) [0, 1, 2, 3, 4] rfl
          have hD9 := hD.sub (ws' := [(mo, .inr (12, [.ref nw, .ref kp, .ref ik, .ref mr, .long la_, .long lb_, .ref mw, .long lc_, .int ti_, .int cb_, .long ld_, .long le_, .ref mq, .ref mz, .ref my, .int sm_, .ref mb, .int bl_, .int ta_, .int tl_, .int tk_, .int vl_, .ref mx, .ref mv])), (nw, .inl (cn_, 350, .inl fn)), (kp, .inl (ck_, 700, .inl f_46)), (ik, .inl (ci_, 2, .inl f_59)), (mr, .inl (cr_, 3, .inl fr_))]) [0, 1, 2, 3, 4] (by decide) rfl
          have hK9 := hK.sub (tys' := [(cn_, .int), (ck_, .int), (ci_, .boolean), (cr_, .int)]) [0, 1, 2, 3] rfl
          exact W.iret (v := 1) hx hb hr (fun t ht hW => ⟨⟨1, (), rfl, (if_pos (by decide)).symm, f_46, f_59, fr_, hOk.im1 hOn (hi_54_0.cast (by omega)), by rw [ht]; exact hP9, va_K.moved hW.alike hK9, hD9⟩, hS.F ht⟩) hS.2.2 dX12_image_58
        · have hn_60 : ¬ 350 ≤ k_38 := fun q => c_57 ((nI_leI (a := 350) (b := k_38) (by omega) (by omega)).mpr q)
          refine lv_aload_n hx hb dX12_image_26 rfl (lv_at hl 1 rfl) ?_
          refine va_get (D := (dC, dI)) (ci := 12) (v := .ref kp) (C := RX12) (T := TX12) (N := 24) hx hb hts iw_m_image_X12 hown hK hP 0 rfl rfl 1 (by decide) (hts (.fieldLink RX12 13 "ThriceCountedModel" "kept" "[I") (by decide +kernel)) (fun _ h9 => h9) rfl dX12_image_27 ?_
          refine lv_sipush (v := 350) hx hb dX12_image_30 (by decide) ?_
          refine lv_iload_n hx hb dX12_image_33 rfl (lv_at hl 2 rfl) ?_
          refine lv_imul hx hb dX12_image_34 ?_
          refine tz_i 350 (by decide) ?_
          refine lv_iload_n hx hb dX12_image_35 rfl (lv_at hl 0 rfl) ?_
          refine lv_iadd hx hb dX12_image_36 ?_
          refine tz_i (nI (350 + k_38)) (nI_add 350 k_38) ?_
          refine lv_aload_n hx hb dX12_image_37 rfl (lv_at hl 1 rfl) ?_
          refine va_get (D := (dC, dI)) (ci := 12) (v := .ref nw) (C := RX12) (T := TX12) (N := 24) hx hb hts iw_m_image_X12 hown hK hP 0 rfl rfl 0 (by decide) (hts (.fieldLink RX12 7 "ThriceCountedModel" "now" "[I") (by decide +kernel)) (fun _ h9 => h9) rfl dX12_image_38 ?_
          refine lv_iload_n hx hb dX12_image_41 rfl (lv_at hl 0 rfl) ?_
          refine va_iald hx hb hK hP 1 0 rfl rfl (vp_in_nI (n := k_38) (N := 350) (by omega) (by decide)) dX12_image_42 ?_
          refine lv_topi (fun x_61 ex_62 => ?_)
          have hb_63 : tz_bd k_38 x_61 := tz_bd_ld hOn (by omega) ex_62 (by omega)
          refine va_iast hx hb hK hP hD hS 2 1 rfl rfl (vp_in_nI (n := (350 + k_38)) (N := 700) (by omega) (by decide)) dX12_image_43 (fun H locs hP hD hS => ?_)
          have hk_65 : tz_Co fn fk_ 350 (k_38 + 1) (upd f_46 (Int32.toNatClampNeg (nI (350 + k_38))) x_61) := hi_54_0.step (by omega) (by omega) (tz_ldv (by omega) ex_62)
          generalize (upd f_46 (Int32.toNatClampNeg (nI (350 + k_38))) x_61) = f_64 at hP hD hk_65
          have hP : va_P (dC, dI) vwCl [(mo, .inr (12, [.ref nw, .ref kp, .ref ik, .ref mr, .long la_, .long lb_, .ref mw, .long lc_, .int ti_, .int cb_, .long ld_, .long le_, .ref mq, .ref mz, .ref my, .int sm_, .ref mb, .int bl_, .int ta_, .int tl_, .int tk_, .int vl_, .ref mx, .ref mv])), (nw, .inl (cn_, 350, .inl fn)), (kp, .inl (ck_, 700, .inl f_64)), (ik, .inl (ci_, 2, .inl fi_)), (mr, .inl (cr_, 3, .inl fr_))] H := hP
          have hD : va_D A [(mo, .inr (12, [.ref nw, .ref kp, .ref ik, .ref mr, .long la_, .long lb_, .ref mw, .long lc_, .int ti_, .int cb_, .long ld_, .long le_, .ref mq, .ref mz, .ref my, .int sm_, .ref mb, .int bl_, .int ta_, .int tl_, .int tk_, .int vl_, .ref mx, .ref mv])), (nw, .inl (cn_, 350, .inl fn)), (kp, .inl (ck_, 700, .inl f_64)), (ik, .inl (ci_, 2, .inl fi_)), (mr, .inl (cr_, 3, .inl fr_))] := hD
          refine lv_iinc (v := (nI (k_38 + 1))) (lv' := [(2, .int (nI (k_38 + 1))), (0, .ref mo), (1, .int 1)]) hx hb dX12_image_44 hl (k := 0) rfl (nI_add k_38 1) (by decide) rfl (fun ls hl => ?_)
          refine lv_goto (tgt := 19) hx hb dX12_image_47 (by decide) ?_
          exact ih_56 ((k_38 + 1), f_64, H, locs, ls) ⟨hk_65, by dsimp only; omega, hP, hD, hS, lv_sub hl [0, 1, 2] rfl⟩ (by dsimp only; omega)
    · exact absurd c_9 (by decide)
  · obtain rfl : 0 = r_3 := (hw_4.trans (if_neg (fun z => hc_5 ((tz_in64 (by first | rfl | decide) rfl (by first | rfl | decide)).mp z)))).symm
    refine lv_if_ne (tgt := 17) hx hb dX12_image_7 (by decide) (fun c_66 => ?_) (fun c_66 => ?_)
    · exact absurd c_66 (by decide)
    · refine lv_aload_n hx hb dX12_image_10 rfl (lv_at hl 0 rfl) ?_
      refine lv_bipush (v := (-2)) hx hb dX12_image_11 (by decide) ?_
      have hPc := hP.sub (ws' := [(mo, .inr (12, [.ref nw, .ref kp, .ref ik, .ref mr, .long la_, .long lb_, .ref mw, .long lc_, .int ti_, .int cb_, .long ld_, .long le_, .ref mq, .ref mz, .ref my, .int sm_, .ref mb, .int bl_, .int ta_, .int tl_, .int tk_, .int vl_, .ref mx, .ref mv])), (mr, .inl (cr_, 3, .inl fr_))]) [0, 4] rfl
      have hDc := hD.sub (ws' := [(mo, .inr (12, [.ref nw, .ref kp, .ref ik, .ref mr, .long la_, .long lb_, .ref mw, .long lc_, .int ti_, .int cb_, .long ld_, .long le_, .ref mq, .ref mz, .ref my, .int sm_, .ref mb, .int bl_, .int ta_, .int tl_, .int tk_, .int vl_, .ref mx, .ref mv])), (mr, .inl (cr_, 3, .inl fr_))]) [0, 4] (by decide) rfl
      have hKc := hK.sub (tys' := [(cr_, .int)]) [3] rfl
      have hFc := va_free (wc := [(mo, .inr (12, [.ref nw, .ref kp, .ref ik, .ref mr, .long la_, .long lb_, .ref mw, .long lc_, .int ti_, .int cb_, .long ld_, .long le_, .ref mq, .ref mz, .ref my, .int sm_, .ref mb, .int bl_, .int ta_, .int tl_, .int tk_, .int vl_, .ref mx, .ref mv])), (mr, .inl (cr_, 3, .inl fr_))]) hD hS hA [0, 4] rfl
      refine va_calli (va_runV (As := [.int (-2)]) (rest := []) ⟨hx, hb, hml, hown, hts⟩ (m_bad l dC dI mo nw kp ik mr la_ lb_ mw lc_ ti_ cb_ ld_ le_ mq mz my sm_ mb bl_ ta_ tl_ tk_ vl_ mx mv cr_ fr_ (-2) s.heap.size) (cwV 1 hts gX12_image_X12_bad rfl rfl rfl (by decide +kernel) ⟨Nat.le_of_ble_eq_true rfl, Nat.le_of_ble_eq_true rfl⟩) ⟨fun a U g mk q => by obtain ⟨q0, q1, qP, qK, qD⟩ := q; exact ⟨q0, q1, qP, va_K.moved (u := U) (U := U.calling g mk a) (Vm.Alike.refl U.vm) qK, qD⟩, va_recv hK hP (ci := 12) (q0 := 0) rfl rfl, fun U hU hW => ⟨rfl, by rw [hU], by rw [hU]; exact hPc, va_K.moved hW.alike hKc, hDc.weaken (fun _ _ _ _ => trivial)⟩⟩ rfl rfl hl.1 rfl (lv_room (Nat.le_of_ble_eq_true rfl)) dX12_image_13 ⟨Nat.le_of_ble_eq_true rfl, Nat.le_of_ble_eq_true rfl⟩) hS (fun q _ h => hFc q h) hFc (fun r_67 u_ t H1 locs ht hvm hw_68 hB hz1 hk1 hS => ?_)
      obtain ⟨gr__69, hP1, hK1, hD1⟩ := hB
      rw [ht] at hP1
      have hK1 := va_K.moved hvm.symm hK1
      obtain ⟨hP, hD⟩ := va_join (wr := [(nw, .inl (cn_, 350, .inl fn)), (kp, .inl (ck_, 700, .inl fk_)), (ik, .inl (ci_, 2, .inl fi_))]) (w1 := [(mo, .inr (12, [.ref nw, .ref kp, .ref ik, .ref mr, .long la_, .long lb_, .ref mw, .long lc_, .int ti_, .int cb_, .long ld_, .long le_, .ref mq, .ref mz, .ref my, .int sm_, .ref mb, .int bl_, .int ta_, .int tl_, .int tk_, .int vl_, .ref mx, .ref mv])), (mr, .inl (cr_, 3, .inl gr__69))]) hP hD [0, 4] [1, 2, 3] rfl rfl (by decide) (by decide) hk1 hFc hP1 hD1
      generalize H1 = H at hP hS ⊢
      have hP : va_P (dC, dI) vwCl [(nw, .inl (cn_, 350, .inl fn)), (kp, .inl (ck_, 700, .inl fk_)), (ik, .inl (ci_, 2, .inl fi_)), (mo, .inr (12, [.ref nw, .ref kp, .ref ik, .ref mr, .long la_, .long lb_, .ref mw, .long lc_, .int ti_, .int cb_, .long ld_, .long le_, .ref mq, .ref mz, .ref my, .int sm_, .ref mb, .int bl_, .int ta_, .int tl_, .int tk_, .int vl_, .ref mx, .ref mv])), (mr, .inl (cr_, 3, .inl gr__69))] H := hP
      have hD : va_D A [(nw, .inl (cn_, 350, .inl fn)), (kp, .inl (ck_, 700, .inl fk_)), (ik, .inl (ci_, 2, .inl fi_)), (mo, .inr (12, [.ref nw, .ref kp, .ref ik, .ref mr, .long la_, .long lb_, .ref mw, .long lc_, .int ti_, .int cb_, .long ld_, .long le_, .ref mq, .ref mz, .ref my, .int sm_, .ref mb, .int bl_, .int ta_, .int tl_, .int tk_, .int vl_, .ref mx, .ref mv])), (mr, .inl (cr_, 3, .inl gr__69))] := hD
      obtain rfl : (-2) = r_67 := hw_68.symm
      have hP9 := hP.sub (ws' := [(mo, .inr (12, [.ref nw, .ref kp, .ref ik, .ref mr, .long la_, .long lb_, .ref mw, .long lc_, .int ti_, .int cb_, .long ld_, .long le_, .ref mq, .ref mz, .ref my, .int sm_, .ref mb, .int bl_, .int ta_, .int tl_, .int tk_, .int vl_, .ref mx, .ref mv])), (nw, .inl (cn_, 350, .inl fn)), (kp, .inl (ck_, 700, .inl fk_)), (ik, .inl (ci_, 2, .inl fi_)), (mr, .inl (cr_, 3, .inl gr__69))]) [3, 0, 1, 2, 4] rfl
      have hD9 := hD.sub (ws' := [(mo, .inr (12, [.ref nw, .ref kp, .ref ik, .ref mr, .long la_, .long lb_, .ref mw, .long lc_, .int ti_, .int cb_, .long ld_, .long le_, .ref mq, .ref mz, .ref my, .int sm_, .ref mb, .int bl_, .int ta_, .int tl_, .int tk_, .int vl_, .ref mx, .ref mv])), (nw, .inl (cn_, 350, .inl fn)), (kp, .inl (ck_, 700, .inl fk_)), (ik, .inl (ci_, 2, .inl fi_)), (mr, .inl (cr_, 3, .inl gr__69))]) [3, 0, 1, 2, 4] (by decide) rfl
      have hK9 := hK.sub (tys' := [(cn_, .int), (ck_, .int), (ci_, .boolean), (cr_, .int)]) [0, 1, 2, 3] rfl
      exact W.iret (v := (-2)) hx hb hr (fun t ht hW => ⟨⟨(-2), (), rfl, (if_neg hc_5).symm, fk_, fi_, gr__69, hOk, by rw [ht]; exact hP9, va_K.moved hW.alike hK9, hD9⟩, hS.F ht⟩) hS.2.2 dX12_image_16
set_option maxRecDepth 20000 in
theorem ggX12_from_X12_in : GoodIn wsX12_from wsX12_in := goodIn_r _ [7] (by decide +kernel) (by decide +kernel)
set_option maxRecDepth 20000 in
theorem gX12_from_X12_in : GoodIn wsX12_from (va_wsS RX12 49 yX12_in wsX12_in) := goodIn_app (goodIn_of _ (by decide +kernel)) ggX12_from_X12_in
set_option maxRecDepth 20000 in
theorem ggX12_from_X12_no : GoodIn wsX12_from wsX12_no := goodIn_r _ [16, 12, 17, 18, 19, 20, 21, 22, 23, 24, 25, 26, 27, 28, 29, 30, 31, 32, 33, 34, 35, 36, 37, 38, 39, 40] (by decide +kernel) (by decide +kernel)
set_option maxRecDepth 20000 in
theorem gX12_from_X12_no : GoodIn wsX12_from (wsV RX12 113 RX12 yX12_no wsX12_no) := goodIn_app (goodIn_of _ (by decide +kernel)) ggX12_from_X12_no
set_option maxRecDepth 20000 in
theorem ggX12_from_X12_bad : GoodIn wsX12_from wsX12_bad := goodIn_r _ [11, 12, 17, 18, 19, 20, 21, 22, 23, 24, 25, 26, 27, 28, 29, 30, 31, 32, 33, 34, 35, 36, 37, 38, 39, 40] (by decide +kernel) (by decide +kernel)
set_option maxRecDepth 20000 in
theorem gX12_from_X12_bad : GoodIn wsX12_from (wsV RX12 61 RX12 yX12_bad wsX12_bad) := goodIn_app (goodIn_of _ (by decide +kernel)) ggX12_from_X12_bad
theorem dX12_from_0 : decode cX12_from 0 = .ok (.iload_n 1, 1) := by decide +kernel
theorem dX12_from_1 : decode cX12_from 1 = .ok (.i2l, 1) := by decide +kernel
theorem dX12_from_2 : decode cX12_from 2 = .ok (.lconst 0, 1) := by decide +kernel
theorem dX12_from_3 : decode cX12_from 3 = .ok (.lconst 1, 1) := by decide +kernel
theorem dX12_from_4 : decode cX12_from 4 = .ok (.invokestatic 49, 3) := by decide +kernel
theorem dX12_from_7 : decode cX12_from 7 = .ok (.ifCond .ne 10, 3) := by decide +kernel
theorem dX12_from_17 : decode cX12_from 17 = .ok (.aload_n 0, 1) := by decide +kernel
theorem dX12_from_18 : decode cX12_from 18 = .ok (.getfield 16, 3) := by decide +kernel
theorem dX12_from_21 : decode cX12_from 21 = .ok (.iload_n 1, 1) := by decide +kernel
theorem dX12_from_22 : decode cX12_from 22 = .ok (.baload, 1) := by decide +kernel
theorem dX12_from_23 : decode cX12_from 23 = .ok (.ifCond .ne 8, 3) := by decide +kernel
theorem dX12_from_31 : decode cX12_from 31 = .ok (.iconst 0, 1) := by decide +kernel
theorem dX12_from_32 : decode cX12_from 32 = .ok (.istore_n 2, 1) := by decide +kernel
theorem dX12_from_33 : decode cX12_from 33 = .ok (.iload_n 2, 1) := by decide +kernel
theorem dX12_from_34 : decode cX12_from 34 = .ok (.sipush 350, 3) := by decide +kernel
theorem dX12_from_37 : decode cX12_from 37 = .ok (.if_icmp .ge 27, 3) := by decide +kernel
theorem dX12_from_40 : decode cX12_from 40 = .ok (.aload_n 0, 1) := by decide +kernel
theorem dX12_from_41 : decode cX12_from 41 = .ok (.getfield 7, 3) := by decide +kernel
theorem dX12_from_44 : decode cX12_from 44 = .ok (.iload_n 2, 1) := by decide +kernel
theorem dX12_from_45 : decode cX12_from 45 = .ok (.aload_n 0, 1) := by decide +kernel
theorem dX12_from_46 : decode cX12_from 46 = .ok (.getfield 13, 3) := by decide +kernel
theorem dX12_from_49 : decode cX12_from 49 = .ok (.sipush 350, 3) := by decide +kernel
theorem dX12_from_52 : decode cX12_from 52 = .ok (.iload_n 1, 1) := by decide +kernel
theorem dX12_from_53 : decode cX12_from 53 = .ok (.imul, 1) := by decide +kernel
theorem dX12_from_54 : decode cX12_from 54 = .ok (.iload_n 2, 1) := by decide +kernel
theorem dX12_from_55 : decode cX12_from 55 = .ok (.iadd, 1) := by decide +kernel
theorem dX12_from_56 : decode cX12_from 56 = .ok (.iaload, 1) := by decide +kernel
theorem dX12_from_57 : decode cX12_from 57 = .ok (.iastore, 1) := by decide +kernel
theorem dX12_from_58 : decode cX12_from 58 = .ok (.iinc 2 1, 3) := by decide +kernel
theorem dX12_from_61 : decode cX12_from 61 = .ok (.goto (-28), 3) := by decide +kernel
theorem dX12_from_64 : decode cX12_from 64 = .ok (.iconst 1, 1) := by decide +kernel
theorem dX12_from_65 : decode cX12_from 65 = .ok (.ireturn, 1) := by decide +kernel
theorem dX12_from_26 : decode cX12_from 26 = .ok (.aload_n 0, 1) := by decide +kernel
theorem dX12_from_27 : decode cX12_from 27 = .ok (.invokevirtual 113, 3) := by decide +kernel
theorem dX12_from_30 : decode cX12_from 30 = .ok (.ireturn, 1) := by decide +kernel
theorem dX12_from_10 : decode cX12_from 10 = .ok (.aload_n 0, 1) := by decide +kernel
theorem dX12_from_11 : decode cX12_from 11 = .ok (.bipush (-2), 2) := by decide +kernel
theorem dX12_from_13 : decode cX12_from 13 = .ok (.invokevirtual 61, 3) := by decide +kernel
theorem dX12_from_16 : decode cX12_from 16 = .ok (.ireturn, 1) := by decide +kernel
set_option maxRecDepth 20000 in
theorem iw_m_from_X12 : ∀ w ∈ wsX120, w ∈ wsX12_from := by decide +kernel
set_option maxHeartbeats 4000000 in
set_option maxRecDepth 100000 in
theorem m_from (l : Launch) (dC : Nat → ClassId) (dI : Nat → Nat → Nat) (mo : Nat) (nw : Nat) (kp : Nat) (ik : Nat) (mr : Nat) (la_ : Int64) (lb_ : Int64) (mw : Nat) (lc_ : Int64) (ti_ : Int32) (cb_ : Int32) (ld_ : Int64) (le_ : Int64) (mq : Nat) (mz : Nat) (my : Nat) (sm_ : Int32) (mb : Nat) (bl_ : Int32) (ta_ : Int32) (tl_ : Int32) (tk_ : Int32) (vl_ : Int32) (mx : Nat) (mv : Nat) (cn_ : ClassId) (fn : Nat → Int32) (ck_ : ClassId) (fk_ : Nat → Int32) (ci_ : ClassId) (fi_ : Nat → Int32) (cr_ : ClassId) (fr_ : Nat → Int32) (na : Int32) (sz : Nat) (hOn : tz_OK 350 fn) (hOk : tz_KO fk_) : Met l yX12_from wsX12_from ({ frames := 1, cells := 0, slots := 0, locals := 25 }) (va_Pc [.ref mo, .int na] (fun U => U.heap.size = sz ∧ va_P (dC, dI) vwCl [(mo, .inr (12, [.ref nw, .ref kp, .ref ik, .ref mr, .long la_, .long lb_, .ref mw, .long lc_, .int ti_, .int cb_, .long ld_, .long le_, .ref mq, .ref mz, .ref my, .int sm_, .ref mb, .int bl_, .int ta_, .int tl_, .int tk_, .int vl_, .ref mx, .ref mv])), (nw, .inl (cn_, 350, .inl fn)), (kp, .inl (ck_, 700, .inl fk_)), (ik, .inl (ci_, 2, .inl fi_)), (mr, .inl (cr_, 3, .inl fr_))] U.heap ∧ va_K (dC, dI) vwCl [(cn_, .int), (ck_, .int), (ci_, .boolean), (cr_, .int)] U ∧ va_D (fun _ => True) [(mo, .inr (12, [.ref nw, .ref kp, .ref ik, .ref mr, .long la_, .long lb_, .ref mw, .long lc_, .int ti_, .int cb_, .long ld_, .long le_, .ref mq, .ref mz, .ref my, .int sm_, .ref mb, .int bl_, .int ta_, .int tl_, .int tk_, .int vl_, .ref mx, .ref mv])), (nw, .inl (cn_, 350, .inl fn)), (kp, .inl (ck_, 700, .inl fk_)), (ik, .inl (ci_, 2, .inl fi_)), (mr, .inl (cr_, 3, .inl fr_))])) (va_Qi (fun (r : Int32) (_ : Unit) => True) (fun _ t => ∃ (gn : Nat → Int32) (gr_ : Nat → Int32), (tz_OK 350 gn) ∧ va_P (dC, dI) vwCl [(mo, .inr (12, [.ref nw, .ref kp, .ref ik, .ref mr, .long la_, .long lb_, .ref mw, .long lc_, .int ti_, .int cb_, .long ld_, .long le_, .ref mq, .ref mz, .ref my, .int sm_, .ref mb, .int bl_, .int ta_, .int tl_, .int tk_, .int vl_, .ref mx, .ref mv])), (nw, .inl (cn_, 350, .inl gn)), (kp, .inl (ck_, 700, .inl fk_)), (ik, .inl (ci_, 2, .inl fi_)), (mr, .inl (cr_, 3, .inl gr_))] t.heap ∧ va_K (dC, dI) vwCl [(cn_, .int), (ck_, .int), (ci_, .boolean), (cr_, .int)] t ∧ va_D (va_A [(mo, .inr (12, [.ref nw, .ref kp, .ref ik, .ref mr, .long la_, .long lb_, .ref mw, .long lc_, .int ti_, .int cb_, .long ld_, .long le_, .ref mq, .ref mz, .ref my, .int sm_, .ref mb, .int bl_, .int ta_, .int tl_, .int tk_, .int vl_, .ref mx, .ref mv])), (nw, .inl (cn_, 350, .inl fn)), (kp, .inl (ck_, 700, .inl fk_)), (ik, .inl (ci_, 2, .inl fi_)), (mr, .inl (cr_, 3, .inl fr_))] sz) [(mo, .inr (12, [.ref nw, .ref kp, .ref ik, .ref mr, .long la_, .long lb_, .ref mw, .long lc_, .int ti_, .int cb_, .long ld_, .long le_, .ref mq, .ref mz, .ref my, .int sm_, .ref mb, .int bl_, .int ta_, .int tl_, .int tk_, .int vl_, .ref mx, .ref mv])), (nw, .inl (cn_, 350, .inl gn)), (kp, .inl (ck_, 700, .inl fk_)), (ik, .inl (ci_, 2, .inl fi_)), (mr, .inl (cr_, 3, .inl gr_))]) (va_A [(mo, .inr (12, [.ref nw, .ref kp, .ref ik, .ref mr, .long la_, .long lb_, .ref mw, .long lc_, .int ti_, .int cb_, .long ld_, .long le_, .ref mq, .ref mz, .ref my, .int sm_, .ref mb, .int bl_, .int ta_, .int tl_, .int tk_, .int vl_, .ref mx, .ref mv])), (nw, .inl (cn_, 350, .inl fn)), (kp, .inl (ck_, 700, .inl fk_)), (ik, .inl (ci_, 2, .inl fi_)), (mr, .inl (cr_, 3, .inl fr_))] sz)) 0 0 (va_A [(mo, .inr (12, [.ref nw, .ref kp, .ref ik, .ref mr, .long la_, .long lb_, .ref mw, .long lc_, .int ti_, .int cb_, .long ld_, .long le_, .ref mq, .ref mz, .ref my, .int sm_, .ref mb, .int bl_, .int ta_, .int tl_, .int tk_, .int vl_, .ref mx, .ref mv])), (nw, .inl (cn_, 350, .inl fn)), (kp, .inl (ck_, 700, .inl fk_)), (ik, .inl (ci_, 2, .inl fi_)), (mr, .inl (cr_, 3, .inl fr_))] sz) := by
  refine Met.ofW (cc := cX12_from) (maxL := 3) (ret := (some .int)) (by decide) rfl ?_
  intro p e s m args below meth c s₁ B hml hv
  obtain ⟨rfl, hsz, hP, hK, hD0⟩ := hv
  have hx := B.exec
  have hb := B.bytes
  have hr := B.returns
  have hts := atoms_spec (ws := wsX12_from) B.pre
  have hown : s.vm.findClass RX12 = some m.cls := findClass_of_methodNamed B.named
  have hlocks := B.notSynchronized
  subst hsz
  have hD := hD0.self (sz := s.heap.size)
  generalize hAe : va_A [(mo, .inr (12, [.ref nw, .ref kp, .ref ik, .ref mr, .long la_, .long lb_, .ref mw, .long lc_, .int ti_, .int cb_, .long ld_, .long le_, .ref mq, .ref mz, .ref my, .int sm_, .ref mb, .int bl_, .int ta_, .int tl_, .int tk_, .int vl_, .ref mx, .ref mv])), (nw, .inl (cn_, 350, .inl fn)), (kp, .inl (ck_, 700, .inl fk_)), (ik, .inl (ci_, 2, .inl fi_)), (mr, .inl (cr_, 3, .inl fr_))] s.heap.size = A at hD ⊢
  have hA : ∀ q : Nat, s.heap.size ≤ q → A q := fun q h => by rw [← hAe]; exact Or.inr h
  have hS : va_S A s.heap s.heap [] := va_S.rf
  have hP : va_P (dC, dI) vwCl [(mo, .inr (12, [.ref nw, .ref kp, .ref ik, .ref mr, .long la_, .long lb_, .ref mw, .long lc_, .int ti_, .int cb_, .long ld_, .long le_, .ref mq, .ref mz, .ref my, .int sm_, .ref mb, .int bl_, .int ta_, .int tl_, .int tk_, .int vl_, .ref mx, .ref mv])), (nw, .inl (cn_, 350, .inl fn)), (kp, .inl (ck_, 700, .inl fk_)), (ik, .inl (ci_, 2, .inl fi_)), (mr, .inl (cr_, 3, .inl fr_))] s.heap := hP
  have hl := lv_entry ([.ref mo, .int na]) (n := 3) (Nat.le_of_ble_eq_true rfl)
  rw [lg_entry_eq]
  generalize (lg_sl ([.ref mo, .int na]) ++ List.replicate (3 - (lg_sl ([.ref mo, .int na])).length) Slot.unset).toArray = ls at hl ⊢
  have hl : lv_has ls 3 [(0, .ref mo), (1, .int na)] := hl
  have hk_1 : tz_Co fk_ fn 0 0 fn := tz_Co.rf
  have hk_2 : tz_Co (fun i => fk_ (350 + i)) fn 0 0 fn := tz_Co.rf
  refine lv_iload_n hx hb dX12_from_0 rfl (lv_at hl 1 rfl) ?_
  refine lv_i2l (v := na.toInt64) hx hb dX12_from_1 rfl ?_
  refine lv_lconst (v := 0) hx hb dX12_from_2 (by decide) ?_
  refine lv_lconst (v := 1) hx hb dX12_from_3 (by decide) ?_
  refine vp_callSi (va_Run.run (va_runS (As := [.long na.toInt64, .long 0, .long 1]) (rest := []) ⟨hx, hb, hml, hown, hts⟩ (m_in l dC dI na.toInt64 0 1) (va_cwS 3 hts gX12_from_X12_in rfl rfl rfl (by decide +kernel) ⟨Nat.le_of_ble_eq_true rfl, Nat.le_of_ble_eq_true rfl⟩) ⟨fun a U g mk q => ⟨q.1, trivial⟩, fun U hU hW => ⟨rfl, trivial⟩⟩ rfl rfl hl.1 rfl (lv_room (Nat.le_of_ble_eq_true rfl)) dX12_from_4 ⟨Nat.le_of_ble_eq_true rfl, Nat.le_of_ble_eq_true rfl⟩)) (fun r_3 hw_4 => ?_)
  by_cases hc_5 : 0 ≤ na ∧ na ≤ 1
  · obtain rfl : 1 = r_3 := (hw_4.trans (if_pos ((tz_in64 (by first | rfl | decide) rfl (by first | rfl | decide)).mpr hc_5))).symm
    obtain ⟨j_6, hj_7, hj_8, rfl⟩ := tz_pickL (l := 0) (n := 1) hc_5 (by decide) (by decide)
    refine lv_if_ne (tgt := 17) hx hb dX12_from_7 (by decide) (fun c_9 => ?_) (fun c_9 => ?_)
    · refine lv_aload_n hx hb dX12_from_17 rfl (lv_at hl 0 rfl) ?_
      refine va_get (D := (dC, dI)) (ci := 12) (v := .ref ik) (C := RX12) (T := TX12) (N := 24) hx hb hts iw_m_from_X12 hown hK hP 0 rfl rfl 2 (by decide) (hts (.fieldLink RX12 16 "ThriceCountedModel" "isKept" "[Z") (by decide +kernel)) (fun _ h9 => h9) rfl dX12_from_18 ?_
      refine lv_iload_n hx hb dX12_from_21 rfl (lv_at hl 1 rfl) ?_
      refine va_zald hx hb hK hP 3 2 rfl rfl (vp_in_nI (n := j_6) (N := 2) (by omega) (by decide)) dX12_from_22 ?_
      refine lv_topi (fun x_10 ex_11 => ?_)
      refine lv_if_ne (tgt := 31) hx hb dX12_from_23 (by decide) (fun c_12 => ?_) (fun c_12 => ?_)
      · rcases (show j_6 = 0 ∨ j_6 = 1 by omega) with rfl | rfl
        · have hl : lv_has ls 3 [(0, .ref mo), (1, .int 0)] := hl
          refine lv_iconst (v := 0) hx hb dX12_from_31 (by decide) ?_
          refine lv_istore_n (lv' := [(2, .int 0), (0, .ref mo), (1, .int 0)]) hx hb dX12_from_32 rfl hl (by decide) rfl (fun ls hl => ?_)
          refine tz_while (σ := Nat × (Nat → Int32) × Heap × List Loc × Array Slot) (fun x => W p l e _ s m _ below meth c x.2.2.1 x.2.2.2.1 _ _ _ (F0 m 33 x.2.2.2.2 [])) (fun x => tz_Co fk_ fn 0 x.1 x.2.1 ∧ x.1 ≤ 350 ∧ va_P (dC, dI) vwCl [(mo, .inr (12, [.ref nw, .ref kp, .ref ik, .ref mr, .long la_, .long lb_, .ref mw, .long lc_, .int ti_, .int cb_, .long ld_, .long le_, .ref mq, .ref mz, .ref my, .int sm_, .ref mb, .int bl_, .int ta_, .int tl_, .int tk_, .int vl_, .ref mx, .ref mv])), (nw, .inl (cn_, 350, .inl x.2.1)), (kp, .inl (ck_, 700, .inl fk_)), (ik, .inl (ci_, 2, .inl fi_)), (mr, .inl (cr_, 3, .inl fr_))] x.2.2.1 ∧ va_D A [(mo, .inr (12, [.ref nw, .ref kp, .ref ik, .ref mr, .long la_, .long lb_, .ref mw, .long lc_, .int ti_, .int cb_, .long ld_, .long le_, .ref mq, .ref mz, .ref my, .int sm_, .ref mb, .int bl_, .int ta_, .int tl_, .int tk_, .int vl_, .ref mx, .ref mv])), (nw, .inl (cn_, 350, .inl x.2.1)), (kp, .inl (ck_, 700, .inl fk_)), (ik, .inl (ci_, 2, .inl fi_)), (mr, .inl (cr_, 3, .inl fr_))] ∧ va_S A s.heap x.2.2.1 x.2.2.2.1 ∧ lv_has x.2.2.2.2 3 [(2, .int (nI x.1)), (0, .ref mo), (1, .int 0)]) (fun x => 350 - x.1) ?_ (0, fn, s.heap, [], ls) ⟨hk_1, by (try dsimp only); omega, hP, hD, hS, hl⟩
          rintro ⟨k_13, f_20, H, locs, ls⟩ ⟨hi_27_0, hi_28_1, hP, hD, hS, hl⟩ ih_29
          dsimp only at hi_27_0 hi_28_1 hP hD hS hl ih_29 ⊢
          refine lv_iload_n hx hb dX12_from_33 rfl (lv_at hl 0 rfl) ?_
          refine lv_sipush (v := 350) hx hb dX12_from_34 (by decide) ?_
          refine lv_icmp_ge (tgt := 64) hx hb dX12_from_37 (by decide) (fun c_30 => ?_) (fun c_30 => ?_)
          · have hn_31 : 350 ≤ k_13 := (nI_leI (a := 350) (b := k_13) (by omega) (by omega)).mp c_30
            refine lv_iconst (v := 1) hx hb dX12_from_64 (by decide) ?_
            have hP9 := hP.sub (ws' := [(mo, .inr (12, [.ref nw, .ref kp, .ref ik, .ref mr, .long la_, .long lb_, .ref mw, .long lc_, .int ti_, .int cb_, .long ld_, .long le_, .ref mq, .ref mz, .ref my, .int sm_, .ref mb, .int bl_, .int ta_, .int tl_, .int tk_, .int vl_, .ref mx, .ref mv])), (nw, .inl (cn_, 350, .inl f_20)), (kp, .inl (ck_, 700, .inl fk_)), (ik, .inl (ci_, 2, .inl fi_)), (mr, .inl (cr_, 3, .inl fr_))]) [0, 1, 2, 3, 4] rfl
            have hD9 := hD.sub (ws' := [(mo, .inr (12, [.ref nw, .ref kp, .ref ik, .ref mr, .long la_, .long lb_, .ref mw, .long lc_, .int ti_, .int cb_, .long ld_, .long le_, .ref mq, .ref mz, .ref my, .int sm_, .ref mb, .int bl_, .int ta_, .int tl_, .int tk_, .int vl_, .ref mx, .ref mv])), (nw, .inl (cn_, 350, .inl f_20)), (kp, .inl (ck_, 700, .inl fk_)), (ik, .inl (ci_, 2, .inl fi_)), (mr, .inl (cr_, 3, .inl fr_))]) [0, 1, 2, 3, 4] (by decide) rfl
            have hK9 := hK.sub (tys' := [(cn_, .int), (ck_, .int), (ci_, .boolean), (cr_, .int)]) [0, 1, 2, 3] rfl
            exact W.iret (v := 1) hx hb hr (fun t ht hW => ⟨⟨1, (), rfl, trivial, f_20, fr_, tz_OK.copy350 hOk.1 (hi_27_0.cast (by omega)), by rw [ht]; exact hP9, va_K.moved hW.alike hK9, hD9⟩, hS.F ht⟩) hS.2.2 dX12_from_65
          · have hn_32 : ¬ 350 ≤ k_13 := fun q => c_30 ((nI_leI (a := 350) (b := k_13) (by omega) (by omega)).mpr q)
            refine lv_aload_n hx hb dX12_from_40 rfl (lv_at hl 1 rfl) ?_
            refine va_get (D := (dC, dI)) (ci := 12) (v := .ref nw) (C := RX12) (T := TX12) (N := 24) hx hb hts iw_m_from_X12 hown hK hP 0 rfl rfl 0 (by decide) (hts (.fieldLink RX12 7 "ThriceCountedModel" "now" "[I") (by decide +kernel)) (fun _ h9 => h9) rfl dX12_from_41 ?_
            refine lv_iload_n hx hb dX12_from_44 rfl (lv_at hl 0 rfl) ?_
            refine lv_aload_n hx hb dX12_from_45 rfl (lv_at hl 1 rfl) ?_
            refine va_get (D := (dC, dI)) (ci := 12) (v := .ref kp) (C := RX12) (T := TX12) (N := 24) hx hb hts iw_m_from_X12 hown hK hP 0 rfl rfl 1 (by decide) (hts (.fieldLink RX12 13 "ThriceCountedModel" "kept" "[I") (by decide +kernel)) (fun _ h9 => h9) rfl dX12_from_46 ?_
            refine lv_sipush (v := 350) hx hb dX12_from_49 (by decide) ?_
            refine lv_iload_n hx hb dX12_from_52 rfl (lv_at hl 2 rfl) ?_
            refine lv_imul hx hb dX12_from_53 ?_
            refine tz_i 0 (by decide) ?_
            refine lv_iload_n hx hb dX12_from_54 rfl (lv_at hl 0 rfl) ?_
            refine lv_iadd hx hb dX12_from_55 ?_
            refine tz_i (nI (0 + k_13)) (nI_add 0 k_13) ?_
            refine va_iald hx hb hK hP 2 1 rfl rfl (vp_in_nI (n := (0 + k_13)) (N := 700) (by omega) (by decide)) dX12_from_56 ?_
            refine lv_topi (fun x_33 ex_34 => ?_)
            refine va_iast hx hb hK hP hD hS 1 0 rfl rfl (vp_in_nI (n := k_13) (N := 350) (by omega) (by decide)) dX12_from_57 (fun H locs hP hD hS => ?_)
            have hk_36 : tz_Co fk_ fn 0 (k_13 + 1) (upd f_20 (Int32.toNatClampNeg (nI k_13)) x_33) := hi_27_0.step (by omega) (by omega) ((tz_ldv (by omega) ex_34).trans (congrArg fk_ (by omega)))
            generalize (upd f_20 (Int32.toNatClampNeg (nI k_13)) x_33) = f_35 at hP hD hk_36
            have hP : va_P (dC, dI) vwCl [(mo, .inr (12, [.ref nw, .ref kp, .ref ik, .ref mr, .long la_, .long lb_, .ref mw, .long lc_, .int ti_, .int cb_, .long ld_, .long le_, .ref mq, .ref mz, .ref my, .int sm_, .ref mb, .int bl_, .int ta_, .int tl_, .int tk_, .int vl_, .ref mx, .ref mv])), (nw, .inl (cn_, 350, .inl f_35)), (kp, .inl (ck_, 700, .inl fk_)), (ik, .inl (ci_, 2, .inl fi_)), (mr, .inl (cr_, 3, .inl fr_))] H := hP
            have hD : va_D A [(mo, .inr (12, [.ref nw, .ref kp, .ref ik, .ref mr, .long la_, .long lb_, .ref mw, .long lc_, .int ti_, .int cb_, .long ld_, .long le_, .ref mq, .ref mz, .ref my, .int sm_, .ref mb, .int bl_, .int ta_, .int tl_, .int tk_, .int vl_, .ref mx, .ref mv])), (nw, .inl (cn_, 350, .inl f_35)), (kp, .inl (ck_, 700, .inl fk_)), (ik, .inl (ci_, 2, .inl fi_)), (mr, .inl (cr_, 3, .inl fr_))] := hD
            refine lv_iinc (v := (nI (k_13 + 1))) (lv' := [(2, .int (nI (k_13 + 1))), (0, .ref mo), (1, .int 0)]) hx hb dX12_from_58 hl (k := 0) rfl (nI_add k_13 1) (by decide) rfl (fun ls hl => ?_)
            refine lv_goto (tgt := 33) hx hb dX12_from_61 (by decide) ?_
            exact ih_29 ((k_13 + 1), f_35, H, locs, ls) ⟨hk_36, by dsimp only; omega, hP, hD, hS, lv_sub hl [0, 1, 2] rfl⟩ (by dsimp only; omega)
        · have hl : lv_has ls 3 [(0, .ref mo), (1, .int 1)] := hl
          refine lv_iconst (v := 0) hx hb dX12_from_31 (by decide) ?_
          refine lv_istore_n (lv' := [(2, .int 0), (0, .ref mo), (1, .int 1)]) hx hb dX12_from_32 rfl hl (by decide) rfl (fun ls hl => ?_)
          refine tz_while (σ := Nat × (Nat → Int32) × Heap × List Loc × Array Slot) (fun x => W p l e _ s m _ below meth c x.2.2.1 x.2.2.2.1 _ _ _ (F0 m 33 x.2.2.2.2 [])) (fun x => tz_Co (fun i => fk_ (350 + i)) fn 0 x.1 x.2.1 ∧ x.1 ≤ 350 ∧ va_P (dC, dI) vwCl [(mo, .inr (12, [.ref nw, .ref kp, .ref ik, .ref mr, .long la_, .long lb_, .ref mw, .long lc_, .int ti_, .int cb_, .long ld_, .long le_, .ref mq, .ref mz, .ref my, .int sm_, .ref mb, .int bl_, .int ta_, .int tl_, .int tk_, .int vl_, .ref mx, .ref mv])), (nw, .inl (cn_, 350, .inl x.2.1)), (kp, .inl (ck_, 700, .inl fk_)), (ik, .inl (ci_, 2, .inl fi_)), (mr, .inl (cr_, 3, .inl fr_))] x.2.2.1 ∧ va_D A [(mo, .inr (12, [.ref nw, .ref kp, .ref ik, .ref mr, .long la_, .long lb_, .ref mw, .long lc_, .int ti_, .int cb_, .long ld_, .long le_, .ref mq, .ref mz, .ref my, .int sm_, .ref mb, .int bl_, .int ta_, .int tl_, .int tk_, .int vl_, .ref mx, .ref mv])), (nw, .inl (cn_, 350, .inl x.2.1)), (kp, .inl (ck_, 700, .inl fk_)), (ik, .inl (ci_, 2, .inl fi_)), (mr, .inl (cr_, 3, .inl fr_))] ∧ va_S A s.heap x.2.2.1 x.2.2.2.1 ∧ lv_has x.2.2.2.2 3 [(2, .int (nI x.1)), (0, .ref mo), (1, .int 1)]) (fun x => 350 - x.1) ?_ (0, fn, s.heap, [], ls) ⟨hk_2, by (try dsimp only); omega, hP, hD, hS, hl⟩
          rintro ⟨k_37, f_44, H, locs, ls⟩ ⟨hi_51_0, hi_52_1, hP, hD, hS, hl⟩ ih_53
          dsimp only at hi_51_0 hi_52_1 hP hD hS hl ih_53 ⊢
          refine lv_iload_n hx hb dX12_from_33 rfl (lv_at hl 0 rfl) ?_
          refine lv_sipush (v := 350) hx hb dX12_from_34 (by decide) ?_
          refine lv_icmp_ge (tgt := 64) hx hb dX12_from_37 (by decide) (fun c_54 => ?_) (fun c_54 => ?_)
          · have hn_55 : 350 ≤ k_37 := (nI_leI (a := 350) (b := k_37) (by omega) (by omega)).mp c_54
            refine lv_iconst (v := 1) hx hb dX12_from_64 (by decide) ?_
            have hP9 := hP.sub (ws' := [(mo, .inr (12, [.ref nw, .ref kp, .ref ik, .ref mr, .long la_, .long lb_, .ref mw, .long lc_, .int ti_, .int cb_, .long ld_, .long le_, .ref mq, .ref mz, .ref my, .int sm_, .ref mb, .int bl_, .int ta_, .int tl_, .int tk_, .int vl_, .ref mx, .ref mv])), (nw, .inl (cn_, 350, .inl f_44)), (kp, .inl (ck_, 700, .inl fk_)), (ik, .inl (ci_, 2, .inl fi_)), (mr, .inl (cr_, 3, .inl fr_))]) [0, 1, 2, 3, 4] rfl
            have hD9 := hD.sub (ws' := [(mo, .inr (12, [.ref nw, .ref kp, .ref ik, .ref mr, .long la_, .long lb_, .ref mw, .long lc_, .int ti_, .int cb_, .long ld_, .long le_, .ref mq, .ref mz, .ref my, .int sm_, .ref mb, .int bl_, .int ta_, .int tl_, .int tk_, .int vl_, .ref mx, .ref mv])), (nw, .inl (cn_, 350, .inl f_44)), (kp, .inl (ck_, 700, .inl fk_)), (ik, .inl (ci_, 2, .inl fi_)), (mr, .inl (cr_, 3, .inl fr_))]) [0, 1, 2, 3, 4] (by decide) rfl
            have hK9 := hK.sub (tys' := [(cn_, .int), (ck_, .int), (ci_, .boolean), (cr_, .int)]) [0, 1, 2, 3] rfl
            exact W.iret (v := 1) hx hb hr (fun t ht hW => ⟨⟨1, (), rfl, trivial, f_44, fr_, tz_OK.copy350 hOk.2 (hi_51_0.cast (by omega)), by rw [ht]; exact hP9, va_K.moved hW.alike hK9, hD9⟩, hS.F ht⟩) hS.2.2 dX12_from_65
          · have hn_56 : ¬ 350 ≤ k_37 := fun q => c_54 ((nI_leI (a := 350) (b := k_37) (by omega) (by omega)).mpr q)
            refine lv_aload_n hx hb dX12_from_40 rfl (lv_at hl 1 rfl) ?_
            refine va_get (D := (dC, dI)) (ci := 12) (v := .ref nw) (C := RX12) (T := TX12) (N := 24) hx hb hts iw_m_from_X12 hown hK hP 0 rfl rfl 0 (by decide) (hts (.fieldLink RX12 7 "ThriceCountedModel" "now" "[I") (by decide +kernel)) (fun _ h9 => h9) rfl dX12_from_41 ?_
            refine lv_iload_n hx hb dX12_from_44 rfl (lv_at hl 0 rfl) ?_
            refine lv_aload_n hx hb dX12_from_45 rfl (lv_at hl 1 rfl) ?_
            refine va_get (D := (dC, dI)) (ci := 12) (v := .ref kp) (C := RX12) (T := TX12) (N := 24) hx hb hts iw_m_from_X12 hown hK hP 0 rfl rfl 1 (by decide) (hts (.fieldLink RX12 13 "ThriceCountedModel" "kept" "[I") (by decide +kernel)) (fun _ h9 => h9) rfl dX12_from_46 ?_
            refine lv_sipush (v := 350) hx hb dX12_from_49 (by decide) ?_
            refine lv_iload_n hx hb dX12_from_52 rfl (lv_at hl 2 rfl) ?_
            refine lv_imul hx hb dX12_from_53 ?_
            refine tz_i 350 (by decide) ?_
            refine lv_iload_n hx hb dX12_from_54 rfl (lv_at hl 0 rfl) ?_
            refine lv_iadd hx hb dX12_from_55 ?_
            refine tz_i (nI (350 + k_37)) (nI_add 350 k_37) ?_
            refine va_iald hx hb hK hP 2 1 rfl rfl (vp_in_nI (n := (350 + k_37)) (N := 700) (by omega) (by decide)) dX12_from_56 ?_
            refine lv_topi (fun x_57 ex_58 => ?_)
            refine va_iast hx hb hK hP hD hS 1 0 rfl rfl (vp_in_nI (n := k_37) (N := 350) (by omega) (by decide)) dX12_from_57 (fun H locs hP hD hS => ?_)
            have hk_60 : tz_Co (fun i => fk_ (350 + i)) fn 0 (k_37 + 1) (upd f_44 (Int32.toNatClampNeg (nI k_37)) x_57) := hi_51_0.step (by omega) (by omega) ((tz_ldv (by omega) ex_58).trans (congrArg fk_ (by omega)))
            generalize (upd f_44 (Int32.toNatClampNeg (nI k_37)) x_57) = f_59 at hP hD hk_60
            have hP : va_P (dC, dI) vwCl [(mo, .inr (12, [.ref nw, .ref kp, .ref ik, .ref mr, .long la_, .long lb_, .ref mw, .long lc_, .int ti_, .int cb_, .long ld_, .long le_, .ref mq, .ref mz, .ref my, .int sm_, .ref mb, .int bl_, .int ta_, .int tl_, .int tk_, .int vl_, .ref mx, .ref mv])), (nw, .inl (cn_, 350, .inl f_59)), (kp, .inl (ck_, 700, .inl fk_)), (ik, .inl (ci_, 2, .inl fi_)), (mr, .inl (cr_, 3, .inl fr_))] H := hP
            have hD : va_D A [(mo, .inr (12, [.ref nw, .ref kp, .ref ik, .ref mr, .long la_, .long lb_, .ref mw, .long lc_, .int ti_, .int cb_, .long ld_, .long le_, .ref mq, .ref mz, .ref my, .int sm_, .ref mb, .int bl_, .int ta_, .int tl_, .int tk_, .int vl_, .ref mx, .ref mv])), (nw, .inl (cn_, 350, .inl f_59)), (kp, .inl (ck_, 700, .inl fk_)), (ik, .inl (ci_, 2, .inl fi_)), (mr, .inl (cr_, 3, .inl fr_))] := hD
            refine lv_iinc (v := (nI (k_37 + 1))) (lv' := [(2, .int (nI (k_37 + 1))), (0, .ref mo), (1, .int 1)]) hx hb dX12_from_58 hl (k := 0) rfl (nI_add k_37 1) (by decide) rfl (fun ls hl => ?_)
            refine lv_goto (tgt := 33) hx hb dX12_from_61 (by decide) ?_
            exact ih_53 ((k_37 + 1), f_59, H, locs, ls) ⟨hk_60, by dsimp only; omega, hP, hD, hS, lv_sub hl [0, 1, 2] rfl⟩ (by dsimp only; omega)
      · refine lv_aload_n hx hb dX12_from_26 rfl (lv_at hl 0 rfl) ?_
        have hPc := hP.sub (ws' := [(mo, .inr (12, [.ref nw, .ref kp, .ref ik, .ref mr, .long la_, .long lb_, .ref mw, .long lc_, .int ti_, .int cb_, .long ld_, .long le_, .ref mq, .ref mz, .ref my, .int sm_, .ref mb, .int bl_, .int ta_, .int tl_, .int tk_, .int vl_, .ref mx, .ref mv])), (mr, .inl (cr_, 3, .inl fr_))]) [0, 4] rfl
        have hDc := hD.sub (ws' := [(mo, .inr (12, [.ref nw, .ref kp, .ref ik, .ref mr, .long la_, .long lb_, .ref mw, .long lc_, .int ti_, .int cb_, .long ld_, .long le_, .ref mq, .ref mz, .ref my, .int sm_, .ref mb, .int bl_, .int ta_, .int tl_, .int tk_, .int vl_, .ref mx, .ref mv])), (mr, .inl (cr_, 3, .inl fr_))]) [0, 4] (by decide) rfl
        have hKc := hK.sub (tys' := [(cr_, .int)]) [3] rfl
        have hFc := va_free (wc := [(mo, .inr (12, [.ref nw, .ref kp, .ref ik, .ref mr, .long la_, .long lb_, .ref mw, .long lc_, .int ti_, .int cb_, .long ld_, .long le_, .ref mq, .ref mz, .ref my, .int sm_, .ref mb, .int bl_, .int ta_, .int tl_, .int tk_, .int vl_, .ref mx, .ref mv])), (mr, .inl (cr_, 3, .inl fr_))]) hD hS hA [0, 4] rfl
        refine va_calli (va_runV (As := []) (rest := []) ⟨hx, hb, hml, hown, hts⟩ (m_no l dC dI mo nw kp ik mr la_ lb_ mw lc_ ti_ cb_ ld_ le_ mq mz my sm_ mb bl_ ta_ tl_ tk_ vl_ mx mv cr_ fr_ s.heap.size) (cwV 0 hts gX12_from_X12_no rfl rfl rfl (by decide +kernel) ⟨Nat.le_of_ble_eq_true rfl, Nat.le_of_ble_eq_true rfl⟩) ⟨fun a U g mk q => by obtain ⟨q0, q1, qP, qK, qD⟩ := q; exact ⟨q0, q1, qP, va_K.moved (u := U) (U := U.calling g mk a) (Vm.Alike.refl U.vm) qK, qD⟩, va_recv hK hP (ci := 12) (q0 := 0) rfl rfl, fun U hU hW => ⟨rfl, by rw [hU], by rw [hU]; exact hPc, va_K.moved hW.alike hKc, hDc.weaken (fun _ _ _ _ => trivial)⟩⟩ rfl rfl hl.1 rfl (lv_room (Nat.le_of_ble_eq_true rfl)) dX12_from_27 ⟨Nat.le_of_ble_eq_true rfl, Nat.le_of_ble_eq_true rfl⟩) hS (fun q _ h => hFc q h) hFc (fun r_61 u_ t H1 locs ht hvm hw_62 hB hz1 hk1 hS => ?_)
        obtain ⟨gr__63, hP1, hK1, hD1⟩ := hB
        rw [ht] at hP1
        have hK1 := va_K.moved hvm.symm hK1
        obtain ⟨hP, hD⟩ := va_join (wr := [(nw, .inl (cn_, 350, .inl fn)), (kp, .inl (ck_, 700, .inl fk_)), (ik, .inl (ci_, 2, .inl fi_))]) (w1 := [(mo, .inr (12, [.ref nw, .ref kp, .ref ik, .ref mr, .long la_, .long lb_, .ref mw, .long lc_, .int ti_, .int cb_, .long ld_, .long le_, .ref mq, .ref mz, .ref my, .int sm_, .ref mb, .int bl_, .int ta_, .int tl_, .int tk_, .int vl_, .ref mx, .ref mv])), (mr, .inl (cr_, 3, .inl gr__63))]) hP hD [0, 4] [1, 2, 3] rfl rfl (by decide) (by decide) hk1 hFc hP1 hD1
        generalize H1 = H at hP hS ⊢
        have hP : va_P (dC, dI) vwCl [(nw, .inl (cn_, 350, .inl fn)), (kp, .inl (ck_, 700, .inl fk_)), (ik, .inl (ci_, 2, .inl fi_)), (mo, .inr (12, [.ref nw, .ref kp, .ref ik, .ref mr, .long la_, .long lb_, .ref mw, .long lc_, .int ti_, .int cb_, .long ld_, .long le_, .ref mq, .ref mz, .ref my, .int sm_, .ref mb, .int bl_, .int ta_, .int tl_, .int tk_, .int vl_, .ref mx, .ref mv])), (mr, .inl (cr_, 3, .inl gr__63))] H := hP
        have hD : va_D A [(nw, .inl (cn_, 350, .inl fn)), (kp, .inl (ck_, 700, .inl fk_)), (ik, .inl (ci_, 2, .inl fi_)), (mo, .inr (12, [.ref nw, .ref kp, .ref ik, .ref mr, .long la_, .long lb_, .ref mw, .long lc_, .int ti_, .int cb_, .long ld_, .long le_, .ref mq, .ref mz, .ref my, .int sm_, .ref mb, .int bl_, .int ta_, .int tl_, .int tk_, .int vl_, .ref mx, .ref mv])), (mr, .inl (cr_, 3, .inl gr__63))] := hD
        obtain rfl : (-3) = r_61 := hw_62.symm
        have hP9 := hP.sub (ws' := [(mo, .inr (12, [.ref nw, .ref kp, .ref ik, .ref mr, .long la_, .long lb_, .ref mw, .long lc_, .int ti_, .int cb_, .long ld_, .long le_, .ref mq, .ref mz, .ref my, .int sm_, .ref mb, .int bl_, .int ta_, .int tl_, .int tk_, .int vl_, .ref mx, .ref mv])), (nw, .inl (cn_, 350, .inl fn)), (kp, .inl (ck_, 700, .inl fk_)), (ik, .inl (ci_, 2, .inl fi_)), (mr, .inl (cr_, 3, .inl gr__63))]) [3, 0, 1, 2, 4] rfl
        have hD9 := hD.sub (ws' := [(mo, .inr (12, [.ref nw, .ref kp, .ref ik, .ref mr, .long la_, .long lb_, .ref mw, .long lc_, .int ti_, .int cb_, .long ld_, .long le_, .ref mq, .ref mz, .ref my, .int sm_, .ref mb, .int bl_, .int ta_, .int tl_, .int tk_, .int vl_, .ref mx, .ref mv])), (nw, .inl (cn_, 350, .inl fn)), (kp, .inl (ck_, 700, .inl fk_)), (ik, .inl (ci_, 2, .inl fi_)), (mr, .inl (cr_, 3, .inl gr__63))]) [3, 0, 1, 2, 4] (by decide) rfl
        have hK9 := hK.sub (tys' := [(cn_, .int), (ck_, .int), (ci_, .boolean), (cr_, .int)]) [0, 1, 2, 3] rfl
        exact W.iret (v := (-3)) hx hb hr (fun t ht hW => ⟨⟨(-3), (), rfl, trivial, fn, gr__63, hOn, by rw [ht]; exact hP9, va_K.moved hW.alike hK9, hD9⟩, hS.F ht⟩) hS.2.2 dX12_from_30
    · exact absurd c_9 (by decide)
  · obtain rfl : 0 = r_3 := (hw_4.trans (if_neg (fun z => hc_5 ((tz_in64 (by first | rfl | decide) rfl (by first | rfl | decide)).mp z)))).symm
    refine lv_if_ne (tgt := 17) hx hb dX12_from_7 (by decide) (fun c_64 => ?_) (fun c_64 => ?_)
    · exact absurd c_64 (by decide)
    · refine lv_aload_n hx hb dX12_from_10 rfl (lv_at hl 0 rfl) ?_
      refine lv_bipush (v := (-2)) hx hb dX12_from_11 (by decide) ?_
      have hPc := hP.sub (ws' := [(mo, .inr (12, [.ref nw, .ref kp, .ref ik, .ref mr, .long la_, .long lb_, .ref mw, .long lc_, .int ti_, .int cb_, .long ld_, .long le_, .ref mq, .ref mz, .ref my, .int sm_, .ref mb, .int bl_, .int ta_, .int tl_, .int tk_, .int vl_, .ref mx, .ref mv])), (mr, .inl (cr_, 3, .inl fr_))]) [0, 4] rfl
      have hDc := hD.sub (ws' := [(mo, .inr (12, [.ref nw, .ref kp, .ref ik, .ref mr, .long la_, .long lb_, .ref mw, .long lc_, .int ti_, .int cb_, .long ld_, .long le_, .ref mq, .ref mz, .ref my, .int sm_, .ref mb, .int bl_, .int ta_, .int tl_, .int tk_, .int vl_, .ref mx, .ref mv])), (mr, .inl (cr_, 3, .inl fr_))]) [0, 4] (by decide) rfl
      have hKc := hK.sub (tys' := [(cr_, .int)]) [3] rfl
      have hFc := va_free (wc := [(mo, .inr (12, [.ref nw, .ref kp, .ref ik, .ref mr, .long la_, .long lb_, .ref mw, .long lc_, .int ti_, .int cb_, .long ld_, .long le_, .ref mq, .ref mz, .ref my, .int sm_, .ref mb, .int bl_, .int ta_, .int tl_, .int tk_, .int vl_, .ref mx, .ref mv])), (mr, .inl (cr_, 3, .inl fr_))]) hD hS hA [0, 4] rfl
      refine va_calli (va_runV (As := [.int (-2)]) (rest := []) ⟨hx, hb, hml, hown, hts⟩ (m_bad l dC dI mo nw kp ik mr la_ lb_ mw lc_ ti_ cb_ ld_ le_ mq mz my sm_ mb bl_ ta_ tl_ tk_ vl_ mx mv cr_ fr_ (-2) s.heap.size) (cwV 1 hts gX12_from_X12_bad rfl rfl rfl (by decide +kernel) ⟨Nat.le_of_ble_eq_true rfl, Nat.le_of_ble_eq_true rfl⟩) ⟨fun a U g mk q => by obtain ⟨q0, q1, qP, qK, qD⟩ := q; exact ⟨q0, q1, qP, va_K.moved (u := U) (U := U.calling g mk a) (Vm.Alike.refl U.vm) qK, qD⟩, va_recv hK hP (ci := 12) (q0 := 0) rfl rfl, fun U hU hW => ⟨rfl, by rw [hU], by rw [hU]; exact hPc, va_K.moved hW.alike hKc, hDc.weaken (fun _ _ _ _ => trivial)⟩⟩ rfl rfl hl.1 rfl (lv_room (Nat.le_of_ble_eq_true rfl)) dX12_from_13 ⟨Nat.le_of_ble_eq_true rfl, Nat.le_of_ble_eq_true rfl⟩) hS (fun q _ h => hFc q h) hFc (fun r_65 u_ t H1 locs ht hvm hw_66 hB hz1 hk1 hS => ?_)
      obtain ⟨gr__67, hP1, hK1, hD1⟩ := hB
      rw [ht] at hP1
      have hK1 := va_K.moved hvm.symm hK1
      obtain ⟨hP, hD⟩ := va_join (wr := [(nw, .inl (cn_, 350, .inl fn)), (kp, .inl (ck_, 700, .inl fk_)), (ik, .inl (ci_, 2, .inl fi_))]) (w1 := [(mo, .inr (12, [.ref nw, .ref kp, .ref ik, .ref mr, .long la_, .long lb_, .ref mw, .long lc_, .int ti_, .int cb_, .long ld_, .long le_, .ref mq, .ref mz, .ref my, .int sm_, .ref mb, .int bl_, .int ta_, .int tl_, .int tk_, .int vl_, .ref mx, .ref mv])), (mr, .inl (cr_, 3, .inl gr__67))]) hP hD [0, 4] [1, 2, 3] rfl rfl (by decide) (by decide) hk1 hFc hP1 hD1
      generalize H1 = H at hP hS ⊢
      have hP : va_P (dC, dI) vwCl [(nw, .inl (cn_, 350, .inl fn)), (kp, .inl (ck_, 700, .inl fk_)), (ik, .inl (ci_, 2, .inl fi_)), (mo, .inr (12, [.ref nw, .ref kp, .ref ik, .ref mr, .long la_, .long lb_, .ref mw, .long lc_, .int ti_, .int cb_, .long ld_, .long le_, .ref mq, .ref mz, .ref my, .int sm_, .ref mb, .int bl_, .int ta_, .int tl_, .int tk_, .int vl_, .ref mx, .ref mv])), (mr, .inl (cr_, 3, .inl gr__67))] H := hP
      have hD : va_D A [(nw, .inl (cn_, 350, .inl fn)), (kp, .inl (ck_, 700, .inl fk_)), (ik, .inl (ci_, 2, .inl fi_)), (mo, .inr (12, [.ref nw, .ref kp, .ref ik, .ref mr, .long la_, .long lb_, .ref mw, .long lc_, .int ti_, .int cb_, .long ld_, .long le_, .ref mq, .ref mz, .ref my, .int sm_, .ref mb, .int bl_, .int ta_, .int tl_, .int tk_, .int vl_, .ref mx, .ref mv])), (mr, .inl (cr_, 3, .inl gr__67))] := hD
      obtain rfl : (-2) = r_65 := hw_66.symm
      have hP9 := hP.sub (ws' := [(mo, .inr (12, [.ref nw, .ref kp, .ref ik, .ref mr, .long la_, .long lb_, .ref mw, .long lc_, .int ti_, .int cb_, .long ld_, .long le_, .ref mq, .ref mz, .ref my, .int sm_, .ref mb, .int bl_, .int ta_, .int tl_, .int tk_, .int vl_, .ref mx, .ref mv])), (nw, .inl (cn_, 350, .inl fn)), (kp, .inl (ck_, 700, .inl fk_)), (ik, .inl (ci_, 2, .inl fi_)), (mr, .inl (cr_, 3, .inl gr__67))]) [3, 0, 1, 2, 4] rfl
      have hD9 := hD.sub (ws' := [(mo, .inr (12, [.ref nw, .ref kp, .ref ik, .ref mr, .long la_, .long lb_, .ref mw, .long lc_, .int ti_, .int cb_, .long ld_, .long le_, .ref mq, .ref mz, .ref my, .int sm_, .ref mb, .int bl_, .int ta_, .int tl_, .int tk_, .int vl_, .ref mx, .ref mv])), (nw, .inl (cn_, 350, .inl fn)), (kp, .inl (ck_, 700, .inl fk_)), (ik, .inl (ci_, 2, .inl fi_)), (mr, .inl (cr_, 3, .inl gr__67))]) [3, 0, 1, 2, 4] (by decide) rfl
      have hK9 := hK.sub (tys' := [(cn_, .int), (ck_, .int), (ci_, .boolean), (cr_, .int)]) [0, 1, 2, 3] rfl
      exact W.iret (v := (-2)) hx hb hr (fun t ht hW => ⟨⟨(-2), (), rfl, trivial, fn, gr__67, hOn, by rw [ht]; exact hP9, va_K.moved hW.alike hK9, hD9⟩, hS.F ht⟩) hS.2.2 dX12_from_16
