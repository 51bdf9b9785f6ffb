set_option maxRecDepth 20000 in
theorem ggX12_way_X12_isWay : GoodIn wsX12_way wsX12_isWay := goodIn_r _ [5, 6, 7, 8, 4, 9] (by decide +kernel) (by decide +kernel)
set_option maxRecDepth 20000 in
theorem gX12_way_X12_isWay : GoodIn wsX12_way (va_wsS RX12 96 yX12_isWay wsX12_isWay) := goodIn_app (goodIn_of _ (by decide +kernel)) ggX12_way_X12_isWay
set_option maxRecDepth 20000 in
theorem ggX12_way_X12_in : GoodIn wsX12_way wsX12_in := goodIn_r _ [9] (by decide +kernel) (by decide +kernel)
set_option maxRecDepth 20000 in
theorem gX12_way_X12_in : GoodIn wsX12_way (va_wsS RX12 49 yX12_in wsX12_in) := goodIn_app (goodIn_of _ (by decide +kernel)) ggX12_way_X12_in
set_option maxRecDepth 20000 in
theorem ggX12_way_X12_offBy : GoodIn wsX12_way wsX12_offBy := goodIn_r _ [23, 24, 25, 26, 27, 4, 28, 29, 30, 31, 7, 8, 9] (by decide +kernel) (by decide +kernel)
set_option maxRecDepth 20000 in
theorem gX12_way_X12_offBy : GoodIn wsX12_way (va_wsS RX12 126 yX12_offBy wsX12_offBy) := goodIn_app (goodIn_of _ (by decide +kernel)) ggX12_way_X12_offBy
set_option maxRecDepth 20000 in
theorem ggX12_way_X12_oddsOf : GoodIn wsX12_way wsX12_oddsOf := goodIn_r _ [20, 21, 22, 4, 23, 24, 25, 26, 27, 28, 29, 30, 31, 7, 8, 9] (by decide +kernel) (by decide +kernel)
set_option maxRecDepth 20000 in
theorem gX12_way_X12_oddsOf : GoodIn wsX12_way (va_wsS RX12 134 yX12_oddsOf wsX12_oddsOf) := goodIn_app (goodIn_of _ (by decide +kernel)) ggX12_way_X12_oddsOf
set_option maxRecDepth 20000 in
theorem ggX12_way_X12_minutesOf : GoodIn wsX12_way wsX12_minutesOf := goodIn_r _ [17] (by decide +kernel) (by decide +kernel)
set_option maxRecDepth 20000 in
theorem gX12_way_X12_minutesOf : GoodIn wsX12_way (va_wsS RX12 131 yX12_minutesOf wsX12_minutesOf) := goodIn_app (goodIn_of _ (by decide +kernel)) ggX12_way_X12_minutesOf
set_option maxRecDepth 20000 in
theorem ggX12_way_X12_bad : GoodIn wsX12_way wsX12_bad := goodIn_r _ [13, 14, 32, 33, 34, 35, 36, 37, 38, 39, 40, 41, 42, 43, 44, 45, 46, 47, 48, 49, 50, 51, 52, 53, 54, 55] (by decide +kernel) (by decide +kernel)
set_option maxRecDepth 20000 in
theorem gX12_way_X12_bad : GoodIn wsX12_way (wsV RX12 61 RX12 yX12_bad wsX12_bad) := goodIn_app (goodIn_of _ (by decide +kernel)) ggX12_way_X12_bad
theorem dX12_way_0 : decode cX12_way 0 = .ok (.iload_n 1, 1) := by decide +kernel
theorem dX12_way_1 : decode cX12_way 1 = .ok (.invokestatic 96, 3) := by decide +kernel
theorem dX12_way_4 : decode cX12_way 4 = .ok (.ifCond .eq 15, 3) := by decide +kernel
theorem dX12_way_7 : decode cX12_way 7 = .ok (.iload_n 2, 1) := by decide +kernel
theorem dX12_way_8 : decode cX12_way 8 = .ok (.i2l, 1) := by decide +kernel
theorem dX12_way_9 : decode cX12_way 9 = .ok (.lconst 0, 1) := by decide +kernel
theorem dX12_way_10 : decode cX12_way 10 = .ok (.ldc2_w 129, 3) := by decide +kernel
theorem dX12_way_13 : decode cX12_way 13 = .ok (.invokestatic 49, 3) := by decide +kernel
theorem dX12_way_16 : decode cX12_way 16 = .ok (.ifCond .ne 10, 3) := by decide +kernel
theorem dX12_way_26 : decode cX12_way 26 = .ok (.iload_n 2, 1) := by decide +kernel
theorem dX12_way_27 : decode cX12_way 27 = .ok (.bipush 20, 2) := by decide +kernel
theorem dX12_way_29 : decode cX12_way 29 = .ok (.if_icmp .ne 10, 3) := by decide +kernel
theorem dX12_way_39 : decode cX12_way 39 = .ok (.iload_n 2, 1) := by decide +kernel
theorem dX12_way_40 : decode cX12_way 40 = .ok (.bipush 21, 2) := by decide +kernel
theorem dX12_way_42 : decode cX12_way 42 = .ok (.if_icmp .ne 11, 3) := by decide +kernel
theorem dX12_way_53 : decode cX12_way 53 = .ok (.iload_n 1, 1) := by decide +kernel
theorem dX12_way_54 : decode cX12_way 54 = .ok (.iload_n 2, 1) := by decide +kernel
theorem dX12_way_55 : decode cX12_way 55 = .ok (.invokestatic 126, 3) := by decide +kernel
theorem dX12_way_58 : decode cX12_way 58 = .ok (.ireturn, 1) := by decide +kernel
theorem dX12_way_45 : decode cX12_way 45 = .ok (.iload_n 1, 1) := by decide +kernel
theorem dX12_way_46 : decode cX12_way 46 = .ok (.iconst 0, 1) := by decide +kernel
theorem dX12_way_47 : decode cX12_way 47 = .ok (.invokestatic 134, 3) := by decide +kernel
theorem dX12_way_50 : decode cX12_way 50 = .ok (.goto 8, 3) := by decide +kernel
theorem dX12_way_32 : decode cX12_way 32 = .ok (.iload_n 1, 1) := by decide +kernel
theorem dX12_way_33 : decode cX12_way 33 = .ok (.invokestatic 131, 3) := by decide +kernel
theorem dX12_way_36 : decode cX12_way 36 = .ok (.goto 22, 3) := by decide +kernel
theorem dX12_way_19 : decode cX12_way 19 = .ok (.aload_n 0, 1) := by decide +kernel
theorem dX12_way_20 : decode cX12_way 20 = .ok (.bipush (-100), 2) := by decide +kernel
theorem dX12_way_22 : decode cX12_way 22 = .ok (.invokevirtual 61, 3) := by decide +kernel
theorem dX12_way_25 : decode cX12_way 25 = .ok (.ireturn, 1) := by decide +kernel
set_option maxHeartbeats 4000000 in
set_option maxRecDepth 100000 in
theorem k_m_way (l : Launch) (dC : Nat → ClassId) (dI : Nat → Nat → Nat) (mo : Nat) (nw : Nat) (kp : Nat) (ik : Nat) (mr : Nat) (mw : Nat) (mq : Nat) (mz : Nat) (my : Nat) (mb : Nat) (mx : Nat) (mv : Nat) (cm : ClassId) (na : Int32) (nb : Int32) (sz : Nat) : Met l yX12_way wsX12_way ({ frames := 3, cells := 0, slots := 0, locals := 69 }) (va_Pc [.ref mo, .int na, .int nb] (fun U => U.heap.size = sz ∧ va_P (dC, dI) vwCl [(mo, .inr (12, [.ref nw, .ref kp, .ref ik, .ref mr, .long 0, .long 1, .ref mw, .long 0, .int 0, .int 0, .long 0, .long 0, .ref mq, .ref mz, .ref my, .int 0, .ref mb, .int 0, .int 0, .int 0, .int 0, .int 0, .ref mx, .ref mv])), (mr, .inl (cm, 3, .inl (fun _ => 0)))] U.heap ∧ va_K (dC, dI) vwCl [(cm, .int)] U ∧ va_D (fun _ => True) [(mo, .inr (12, [.ref nw, .ref kp, .ref ik, .ref mr, .long 0, .long 1, .ref mw, .long 0, .int 0, .int 0, .long 0, .long 0, .ref mq, .ref mz, .ref my, .int 0, .ref mb, .int 0, .int 0, .int 0, .int 0, .int 0, .ref mx, .ref mv])), (mr, .inl (cm, 3, .inl (fun _ => 0)))])) (va_Qi (fun (r : Int32) (_ : Unit) => r = (if 0 ≤ na ∧ na ≤ 5 then (if 0 ≤ nb ∧ nb ≤ 21 then (if nb = 20 then zM na else if nb = 21 then zN (yS na) 0 20 else yS na nb) else (-100)) else (-100))) (fun _ _ => True) (va_A [(mo, .inr (12, [.ref nw, .ref kp, .ref ik, .ref mr, .long 0, .long 1, .ref mw, .long 0, .int 0, .int 0, .long 0, .long 0, .ref mq, .ref mz, .ref my, .int 0, .ref mb, .int 0, .int 0, .int 0, .int 0, .int 0, .ref mx, .ref mv])), (mr, .inl (cm, 3, .inl (fun _ => 0)))] sz)) 0 0 (va_A [(mo, .inr (12, [.ref nw, .ref kp, .ref ik, .ref mr, .long 0, .long 1, .ref mw, .long 0, .int 0, .int 0, .long 0, .long 0, .ref mq, .ref mz, .ref my, .int 0, .ref mb, .int 0, .int 0, .int 0, .int 0, .int 0, .ref mx, .ref mv])), (mr, .inl (cm, 3, .inl (fun _ => 0)))] sz) := by
  refine Met.ofW (cc := cX12_way) (maxL := 3) (ret := (some .int)) (by decide) rfl ?_
  intro p e s m args below meth c s₁ B hml hv
  obtain ⟨rfl, hsz, hP, hK, hD0⟩ := hv
  have hx := B.exec
  have hb := B.bytes
  have hr := B.returns
  have hts := atoms_spec (ws := wsX12_way) B.pre
  have hown : s.vm.findClass RX12 = some m.cls := findClass_of_methodNamed B.named
  have hlocks := B.notSynchronized
  subst hsz
  have hD := hD0.self (sz := s.heap.size)
  generalize hAe : va_A [(mo, .inr (12, [.ref nw, .ref kp, .ref ik, .ref mr, .long 0, .long 1, .ref mw, .long 0, .int 0, .int 0, .long 0, .long 0, .ref mq, .ref mz, .ref my, .int 0, .ref mb, .int 0, .int 0, .int 0, .int 0, .int 0, .ref mx, .ref mv])), (mr, .inl (cm, 3, .inl (fun _ => 0)))] s.heap.size = A at hD ⊢
  have hA : ∀ q : Nat, s.heap.size ≤ q → A q := fun q h => by rw [← hAe]; exact Or.inr h
  have hS : va_S A s.heap s.heap [] := va_S.rf
  have hP : va_P (dC, dI) vwCl [(mo, .inr (12, [.ref nw, .ref kp, .ref ik, .ref mr, .long 0, .long 1, .ref mw, .long 0, .int 0, .int 0, .long 0, .long 0, .ref mq, .ref mz, .ref my, .int 0, .ref mb, .int 0, .int 0, .int 0, .int 0, .int 0, .ref mx, .ref mv])), (mr, .inl (cm, 3, .inl (fun _ => 0)))] s.heap := hP
  have hl := lv_entry ([.ref mo, .int na, .int nb]) (n := 3) (Nat.le_of_ble_eq_true rfl)
  rw [lg_entry_eq]
  generalize (lg_sl ([.ref mo, .int na, .int nb]) ++ List.replicate (3 - (lg_sl ([.ref mo, .int na, .int nb])).length) Slot.unset).toArray = ls at hl ⊢
  have hl : lv_has ls 3 [(0, .ref mo), (1, .int na), (2, .int nb)] := hl
  refine lv_iload_n hx hb dX12_way_0 rfl (lv_at hl 1 rfl) ?_
  refine vp_callSi (va_Run.run (va_runS (As := [.int na]) (rest := []) ⟨hx, hb, hml, hown, hts⟩ (k_m_isWay l dC dI na) (va_cwS 1 hts gX12_way_X12_isWay rfl rfl rfl (by decide +kernel) ⟨Nat.le_of_ble_eq_true rfl, Nat.le_of_ble_eq_true rfl⟩) ⟨fun a U g mk q => ⟨q.1, trivial⟩, fun U hU hW => ⟨rfl, trivial⟩⟩ rfl rfl hl.1 rfl (lv_room (Nat.le_of_ble_eq_true rfl)) dX12_way_1 ⟨Nat.le_of_ble_eq_true rfl, Nat.le_of_ble_eq_true rfl⟩)) (fun r_1 hw_2 => ?_)
  by_cases hc_3 : 0 ≤ na ∧ na ≤ 5
  · obtain rfl : 1 = r_1 := (hw_2.trans (if_pos hc_3)).symm
    refine lv_if_eq (tgt := 19) hx hb dX12_way_4 (by decide) (fun c_4 => ?_) (fun c_4 => ?_)
    · exact absurd c_4 (by decide)
    · refine lv_iload_n hx hb dX12_way_7 rfl (lv_at hl 2 rfl) ?_
      refine lv_i2l (v := nb.toInt64) hx hb dX12_way_8 rfl ?_
      refine lv_lconst (v := 0) hx hb dX12_way_9 (by decide) ?_
      refine lv_ldc2 hx hb hown (hts (.constantLong RX12 129 (21)) (by decide +kernel)) dX12_way_10 ?_
      refine vp_callSi (va_Run.run (va_runS (As := [.long nb.toInt64, .long 0, .long 21]) (rest := []) ⟨hx, hb, hml, hown, hts⟩ (k_in l dC dI nb.toInt64 0 21) (va_cwS 3 hts gX12_way_X12_in rfl rfl rfl (by decide +kernel) ⟨Nat.le_of_ble_eq_true rfl, Nat.le_of_ble_eq_true rfl⟩) ⟨fun a U g mk q => ⟨q.1, trivial⟩, fun U hU hW => ⟨rfl, trivial⟩⟩ rfl rfl hl.1 rfl (lv_room (Nat.le_of_ble_eq_true rfl)) dX12_way_13 ⟨Nat.le_of_ble_eq_true rfl, Nat.le_of_ble_eq_true rfl⟩)) (fun r_5 hw_6 => ?_)
      by_cases hc_7 : 0 ≤ nb ∧ nb ≤ 21
      · obtain rfl : 1 = r_5 := (hw_6.trans (if_pos ((tz_in64 (by first | rfl | decide) rfl (by first | rfl | decide)).mpr hc_7))).symm
        refine lv_if_ne (tgt := 26) hx hb dX12_way_16 (by decide) (fun c_8 => ?_) (fun c_8 => ?_)
        · refine lv_iload_n hx hb dX12_way_26 rfl (lv_at hl 2 rfl) ?_
          refine lv_bipush (v := 20) hx hb dX12_way_27 (by decide) ?_
          refine lv_icmp_ne (tgt := 39) hx hb dX12_way_29 (by decide) (fun c_9 => ?_) (fun c_9 => ?_)
          · refine lv_iload_n hx hb dX12_way_39 rfl (lv_at hl 2 rfl) ?_
            refine lv_bipush (v := 21) hx hb dX12_way_40 (by decide) ?_
            refine lv_icmp_ne (tgt := 53) hx hb dX12_way_42 (by decide) (fun c_10 => ?_) (fun c_10 => ?_)
            · refine lv_iload_n hx hb dX12_way_53 rfl (lv_at hl 1 rfl) ?_
              refine lv_iload_n hx hb dX12_way_54 rfl (lv_at hl 2 rfl) ?_
              refine vp_callSi (va_Run.run (va_runS (As := [.int na, .int nb]) (rest := []) ⟨hx, hb, hml, hown, hts⟩ (k_offBy l dC dI na nb hc_3) (va_cwS 2 hts gX12_way_X12_offBy rfl rfl rfl (by decide +kernel) ⟨Nat.le_of_ble_eq_true rfl, Nat.le_of_ble_eq_true rfl⟩) ⟨fun a U g mk q => ⟨q.1, trivial⟩, fun U hU hW => ⟨rfl, trivial⟩⟩ rfl rfl hl.1 rfl (lv_room (Nat.le_of_ble_eq_true rfl)) dX12_way_55 ⟨Nat.le_of_ble_eq_true rfl, Nat.le_of_ble_eq_true rfl⟩)) (fun r_11 hw_12 => ?_)
              obtain rfl : (yS na nb) = r_11 := hw_12.symm
              exact W.iret (v := (yS na nb)) hx hb hr (fun t ht hW => ⟨⟨(yS na nb), (), rfl, ((if_pos hc_3).trans ((if_pos hc_7).trans ((if_neg c_9).trans (if_neg c_10)))).symm, trivial⟩, hS.F ht⟩) hS.2.2 dX12_way_58
            · refine lv_iload_n hx hb dX12_way_45 rfl (lv_at hl 1 rfl) ?_
              refine lv_iconst (v := 0) hx hb dX12_way_46 (by decide) ?_
              refine vp_callSi (va_Run.run (va_runS (As := [.int na, .int 0]) (rest := []) ⟨hx, hb, hml, hown, hts⟩ (k_oddsOf l dC dI na 0 hc_3) (va_cwS 2 hts gX12_way_X12_oddsOf rfl rfl rfl (by decide +kernel) ⟨Nat.le_of_ble_eq_true rfl, Nat.le_of_ble_eq_true rfl⟩) ⟨fun a U g mk q => ⟨q.1, trivial⟩, fun U hU hW => ⟨rfl, trivial⟩⟩ rfl rfl hl.1 rfl (lv_room (Nat.le_of_ble_eq_true rfl)) dX12_way_47 ⟨Nat.le_of_ble_eq_true rfl, Nat.le_of_ble_eq_true rfl⟩)) (fun r_13 hw_14 => ?_)
              obtain rfl : (zN (yS na) 0 20) = r_13 := hw_14.symm
              refine lv_goto (tgt := 58) hx hb dX12_way_50 (by decide) ?_
              exact W.iret (v := (zN (yS na) 0 20)) hx hb hr (fun t ht hW => ⟨⟨(zN (yS na) 0 20), (), rfl, ((if_pos hc_3).trans ((if_pos hc_7).trans ((if_neg c_9).trans (if_pos c_10)))).symm, trivial⟩, hS.F ht⟩) hS.2.2 dX12_way_58
          · refine lv_iload_n hx hb dX12_way_32 rfl (lv_at hl 1 rfl) ?_
            refine vp_callSi (va_Run.run (va_runS (As := [.int na]) (rest := []) ⟨hx, hb, hml, hown, hts⟩ (k_minutesOf l dC dI na) (va_cwS 1 hts gX12_way_X12_minutesOf rfl rfl rfl (by decide +kernel) ⟨Nat.le_of_ble_eq_true rfl, Nat.le_of_ble_eq_true rfl⟩) ⟨fun a U g mk q => ⟨q.1, trivial⟩, fun U hU hW => ⟨rfl, trivial⟩⟩ rfl rfl hl.1 rfl (lv_room (Nat.le_of_ble_eq_true rfl)) dX12_way_33 ⟨Nat.le_of_ble_eq_true rfl, Nat.le_of_ble_eq_true rfl⟩)) (fun r_15 hw_16 => ?_)
            obtain rfl : (zM na) = r_15 := hw_16.symm
            refine lv_goto (tgt := 58) hx hb dX12_way_36 (by decide) ?_
            exact W.iret (v := (zM na)) hx hb hr (fun t ht hW => ⟨⟨(zM na), (), rfl, ((if_pos hc_3).trans ((if_pos hc_7).trans (if_pos c_9))).symm, trivial⟩, hS.F ht⟩) hS.2.2 dX12_way_58
        · exact absurd c_8 (by decide)
      · obtain rfl : 0 = r_5 := (hw_6.trans (if_neg (fun z => hc_7 ((tz_in64 (by first | rfl | decide) rfl (by first | rfl | decide)).mp z)))).symm
        refine lv_if_ne (tgt := 26) hx hb dX12_way_16 (by decide) (fun c_17 => ?_) (fun c_17 => ?_)
        · exact absurd c_17 (by decide)
        · refine lv_aload_n hx hb dX12_way_19 rfl (lv_at hl 0 rfl) ?_
          refine lv_bipush (v := (-100)) hx hb dX12_way_20 (by decide) ?_
          have hPc := hP.sub (ws' := [(mo, .inr (12, [.ref nw, .ref kp, .ref ik, .ref mr, .long 0, .long 1, .ref mw, .long 0, .int 0, .int 0, .long 0, .long 0, .ref mq, .ref mz, .ref my, .int 0, .ref mb, .int 0, .int 0, .int 0, .int 0, .int 0, .ref mx, .ref mv])), (mr, .inl (cm, 3, .inl (fun _ => 0)))]) [0, 1] rfl
          have hDc := hD.sub (ws' := [(mo, .inr (12, [.ref nw, .ref kp, .ref ik, .ref mr, .long 0, .long 1, .ref mw, .long 0, .int 0, .int 0, .long 0, .long 0, .ref mq, .ref mz, .ref my, .int 0, .ref mb, .int 0, .int 0, .int 0, .int 0, .int 0, .ref mx, .ref mv])), (mr, .inl (cm, 3, .inl (fun _ => 0)))]) [0, 1] (by decide) rfl
          have hKc := hK.sub (tys' := [(cm, .int)]) [0] rfl
          have hFc := va_free (wc := [(mo, .inr (12, [.ref nw, .ref kp, .ref ik, .ref mr, .long 0, .long 1, .ref mw, .long 0, .int 0, .int 0, .long 0, .long 0, .ref mq, .ref mz, .ref my, .int 0, .ref mb, .int 0, .int 0, .int 0, .int 0, .int 0, .ref mx, .ref mv])), (mr, .inl (cm, 3, .inl (fun _ => 0)))]) hD hS hA [0, 1] rfl
          refine va_calli (va_runV (As := [.int (-100)]) (rest := []) ⟨hx, hb, hml, hown, hts⟩ (k_bad l dC dI mo nw kp ik mr mw mq mz my mb mx mv cm (-100) s.heap.size) (cwV 1 hts gX12_way_X12_bad rfl rfl rfl (by decide +kernel) ⟨Nat.le_of_ble_eq_true rfl, Nat.le_of_ble_eq_true rfl⟩) ⟨fun a U g mk q => by obtain ⟨q0, q1, qP, qK, qD⟩ := q; exact ⟨q0, q1, qP, va_K.moved (u := U) (U := U.calling g mk a) (Vm.Alike.refl U.vm) qK, qD⟩, va_recv hK hP (ci := 12) (q0 := 0) rfl rfl, fun U hU hW => ⟨rfl, by rw [hU], by rw [hU]; exact hPc, va_K.moved hW.alike hKc, hDc.weaken (fun _ _ _ _ => trivial)⟩⟩ rfl rfl hl.1 rfl (lv_room (Nat.le_of_ble_eq_true rfl)) dX12_way_22 ⟨Nat.le_of_ble_eq_true rfl, Nat.le_of_ble_eq_true rfl⟩) hS (fun q _ h => hFc q h) hFc (fun r_18 u_ t H1 locs ht hvm hw_19 hB hz1 hk1 hS => ?_)
          obtain ⟨hP, hD⟩ := va_join (wr := []) (w1 := []) hP hD [0, 1] [] rfl rfl (by decide) (by decide) hk1 hFc tz_P0 tz_D0
          generalize H1 = H at hP hS ⊢
          have hP : va_P (dC, dI) vwCl [] H := hP
          have hD : va_D A [] := hD
          obtain rfl : (-100) = r_18 := hw_19.symm
          exact W.iret (v := (-100)) hx hb hr (fun t ht hW => ⟨⟨(-100), (), rfl, ((if_pos hc_3).trans (if_neg hc_7)).symm, trivial⟩, hS.F ht⟩) hS.2.2 dX12_way_25
  · obtain rfl : 0 = r_1 := (hw_2.trans (if_neg hc_3)).symm
    refine lv_if_eq (tgt := 19) hx hb dX12_way_4 (by decide) (fun c_20 => ?_) (fun c_20 => ?_)
    · refine lv_aload_n hx hb dX12_way_19 rfl (lv_at hl 0 rfl) ?_
      refine lv_bipush (v := (-100)) hx hb dX12_way_20 (by decide) ?_
      have hPc := hP.sub (ws' := [(mo, .inr (12, [.ref nw, .ref kp, .ref ik, .ref mr, .long 0, .long 1, .ref mw, .long 0, .int 0, .int 0, .long 0, .long 0, .ref mq, .ref mz, .ref my, .int 0, .ref mb, .int 0, .int 0, .int 0, .int 0, .int 0, .ref mx, .ref mv])), (mr, .inl (cm, 3, .inl (fun _ => 0)))]) [0, 1] rfl
      have hDc := hD.sub (ws' := [(mo, .inr (12, [.ref nw, .ref kp, .ref ik, .ref mr, .long 0, .long 1, .ref mw, .long 0, .int 0, .int 0, .long 0, .long 0, .ref mq, .ref mz, .ref my, .int 0, .ref mb, .int 0, .int 0, .int 0, .int 0, .int 0, .ref mx, .ref mv])), (mr, .inl (cm, 3, .inl (fun _ => 0)))]) [0, 1] (by decide) rfl
      have hKc := hK.sub (tys' := [(cm, .int)]) [0] rfl
      have hFc := va_free (wc := [(mo, .inr (12, [.ref nw, .ref kp, .ref ik, .ref mr, .long 0, .long 1, .ref mw, .long 0, .int 0, .int 0, .long 0, .long 0, .ref mq, .ref mz, .ref my, .int 0, .ref mb, .int 0, .int 0, .int 0, .int 0, .int 0, .ref mx, .ref mv])), (mr, .inl (cm, 3, .inl (fun _ => 0)))]) hD hS hA [0, 1] rfl
      refine va_calli (va_runV (As := [.int (-100)]) (rest := []) ⟨hx, hb, hml, hown, hts⟩ (k_bad l dC dI mo nw kp ik mr mw mq mz my mb mx mv cm (-100) s.heap.size) (cwV 1 hts gX12_way_X12_bad rfl rfl rfl (by decide +kernel) ⟨Nat.le_of_ble_eq_true rfl, Nat.le_of_ble_eq_true rfl⟩) ⟨fun a U g mk q => by obtain ⟨q0, q1, qP, qK, qD⟩ := q; exact ⟨q0, q1, qP, va_K.moved (u := U) (U := U.calling g mk a) (Vm.Alike.refl U.vm) qK, qD⟩, va_recv hK hP (ci := 12) (q0 := 0) rfl rfl, fun U hU hW => ⟨rfl, by rw [hU], by rw [hU]; exact hPc, va_K.moved hW.alike hKc, hDc.weaken (fun _ _ _ _ => trivial)⟩⟩ rfl rfl hl.1 rfl (lv_room (Nat.le_of_ble_eq_true rfl)) dX12_way_22 ⟨Nat.le_of_ble_eq_true rfl, Nat.le_of_ble_eq_true rfl⟩) hS (fun q _ h => hFc q h) hFc (fun r_21 u_ t H1 locs ht hvm hw_22 hB hz1 hk1 hS => ?_)
      obtain ⟨hP, hD⟩ := va_join (wr := []) (w1 := []) hP hD [0, 1] [] rfl rfl (by decide) (by decide) hk1 hFc tz_P0 tz_D0
      generalize H1 = H at hP hS ⊢
      have hP : va_P (dC, dI) vwCl [] H := hP
      have hD : va_D A [] := hD
      obtain rfl : (-100) = r_21 := hw_22.symm
      exact W.iret (v := (-100)) hx hb hr (fun t ht hW => ⟨⟨(-100), (), rfl, (if_neg hc_3).symm, trivial⟩, hS.F ht⟩) hS.2.2 dX12_way_25
    · exact absurd c_20 (by decide)
set_option maxRecDepth 20000 in
theorem ggX12_odds_X12_isWay : GoodIn wsX12_odds wsX12_isWay := goodIn_r _ [6, 7, 8, 9, 5, 10] (by decide +kernel) (by decide +kernel)
set_option maxRecDepth 20000 in
theorem gX12_odds_X12_isWay : GoodIn wsX12_odds (va_wsS RX12 96 yX12_isWay wsX12_isWay) := goodIn_app (goodIn_of _ (by decide +kernel)) ggX12_odds_X12_isWay
set_option maxRecDepth 20000 in
theorem ggX12_odds_X12_in : GoodIn wsX12_odds wsX12_in := goodIn_r _ [10] (by decide +kernel) (by decide +kernel)
set_option maxRecDepth 20000 in
theorem gX12_odds_X12_in : GoodIn wsX12_odds (va_wsS RX12 49 yX12_in wsX12_in) := goodIn_app (goodIn_of _ (by decide +kernel)) ggX12_odds_X12_in
set_option maxRecDepth 20000 in
theorem ggX12_odds_X12_oddsOf : GoodIn wsX12_odds wsX12_oddsOf := goodIn_r _ [13, 14, 15, 5, 16, 17, 18, 19, 20, 21, 22, 23, 24, 8, 9, 10] (by decide +kernel) (by decide +kernel)
set_option maxRecDepth 20000 in
theorem gX12_odds_X12_oddsOf : GoodIn wsX12_odds (va_wsS RX12 134 yX12_oddsOf wsX12_oddsOf) := goodIn_app (goodIn_of _ (by decide +kernel)) ggX12_odds_X12_oddsOf
set_option maxRecDepth 20000 in
theorem ggX12_odds_X12_bad : GoodIn wsX12_odds wsX12_bad := goodIn_r _ [28, 29, 30, 31, 32, 33, 34, 35, 36, 37, 38, 39, 40, 41, 42, 43, 44, 45, 46, 47, 48, 49, 50, 51, 52, 53] (by decide +kernel) (by decide +kernel)
set_option maxRecDepth 20000 in
theorem gX12_odds_X12_bad : GoodIn wsX12_odds (wsV RX12 61 RX12 yX12_bad wsX12_bad) := goodIn_app (goodIn_of _ (by decide +kernel)) ggX12_odds_X12_bad
theorem dX12_odds_0 : decode cX12_odds 0 = .ok (.iload_n 1, 1) := by decide +kernel
theorem dX12_odds_1 : decode cX12_odds 1 = .ok (.invokestatic 96, 3) := by decide +kernel
theorem dX12_odds_4 : decode cX12_odds 4 = .ok (.ifCond .eq 25, 3) := by decide +kernel
theorem dX12_odds_7 : decode cX12_odds 7 = .ok (.iload_n 2, 1) := by decide +kernel
theorem dX12_odds_8 : decode cX12_odds 8 = .ok (.i2l, 1) := by decide +kernel
theorem dX12_odds_9 : decode cX12_odds 9 = .ok (.ldc2_w 137, 3) := by decide +kernel
theorem dX12_odds_12 : decode cX12_odds 12 = .ok (.ldc2_w 139, 3) := by decide +kernel
theorem dX12_odds_15 : decode cX12_odds 15 = .ok (.invokestatic 49, 3) := by decide +kernel
theorem dX12_odds_18 : decode cX12_odds 18 = .ok (.ifCond .eq 11, 3) := by decide +kernel
theorem dX12_odds_21 : decode cX12_odds 21 = .ok (.iload_n 1, 1) := by decide +kernel
theorem dX12_odds_22 : decode cX12_odds 22 = .ok (.iload_n 2, 1) := by decide +kernel
theorem dX12_odds_23 : decode cX12_odds 23 = .ok (.invokestatic 134, 3) := by decide +kernel
theorem dX12_odds_26 : decode cX12_odds 26 = .ok (.goto 9, 3) := by decide +kernel
theorem dX12_odds_35 : decode cX12_odds 35 = .ok (.ireturn, 1) := by decide +kernel
theorem dX12_odds_29 : decode cX12_odds 29 = .ok (.aload_n 0, 1) := by decide +kernel
theorem dX12_odds_30 : decode cX12_odds 30 = .ok (.bipush (-2), 2) := by decide +kernel
theorem dX12_odds_32 : decode cX12_odds 32 = .ok (.invokevirtual 61, 3) := by decide +kernel
set_option maxHeartbeats 4000000 in
set_option maxRecDepth 100000 in
theorem k_m_odds (l : Launch) (dC : Nat → ClassId) (dI : Nat → Nat → Nat) (mo : Nat) (nw : Nat) (kp : Nat) (ik : Nat) (mr : Nat) (mw : Nat) (mq : Nat) (mz : Nat) (my : Nat) (mb : Nat) (mx : Nat) (mv : Nat) (cm : ClassId) (na : Int32) (nb : Int32) (sz : Nat) : Met l yX12_odds wsX12_odds ({ frames := 3, cells := 0, slots := 0, locals := 69 }) (va_Pc [.ref mo, .int na, .int nb] (fun U => U.heap.size = sz ∧ va_P (dC, dI) vwCl [(mo, .inr (12, [.ref nw, .ref kp, .ref ik, .ref mr, .long 0, .long 1, .ref mw, .long 0, .int 0, .int 0, .long 0, .long 0, .ref mq, .ref mz, .ref my, .int 0, .ref mb, .int 0, .int 0, .int 0, .int 0, .int 0, .ref mx, .ref mv])), (mr, .inl (cm, 3, .inl (fun _ => 0)))] U.heap ∧ va_K (dC, dI) vwCl [(cm, .int)] U ∧ va_D (fun _ => True) [(mo, .inr (12, [.ref nw, .ref kp, .ref ik, .ref mr, .long 0, .long 1, .ref mw, .long 0, .int 0, .int 0, .long 0, .long 0, .ref mq, .ref mz, .ref my, .int 0, .ref mb, .int 0, .int 0, .int 0, .int 0, .int 0, .ref mx, .ref mv])), (mr, .inl (cm, 3, .inl (fun _ => 0)))])) (va_Qi (fun (r : Int32) (_ : Unit) => r = (if 0 ≤ na ∧ na ≤ 5 then (if (-40) ≤ nb ∧ nb ≤ 40 then zN (yS na) nb 20 else (-2)) else (-2))) (fun _ _ => True) (va_A [(mo, .inr (12, [.ref nw, .ref kp, .ref ik, .ref mr, .long 0, .long 1, .ref mw, .long 0, .int 0, .int 0, .long 0, .long 0, .ref mq, .ref mz, .ref my, .int 0, .ref mb, .int 0, .int 0, .int 0, .int 0, .int 0, .ref mx, .ref mv])), (mr, .inl (cm, 3, .inl (fun _ => 0)))] sz)) 0 0 (va_A [(mo, .inr (12, [.ref nw, .ref kp, .ref ik, .ref mr, .long 0, .long 1, .ref mw, .long 0, .int 0, .int 0, .long 0, .long 0, .ref mq, .ref mz, .ref my, .int 0, .ref mb, .int 0, .int 0, .int 0, .int 0, .int 0, .ref mx, .ref mv])), (mr, .inl (cm, 3, .inl (fun _ => 0)))] sz) := by
  refine Met.ofW (cc := cX12_odds) (maxL := 3) (ret := (some .int)) (by decide) rfl ?_
  intro p e s m args below meth c s₁ B hml hv
  obtain ⟨rfl, hsz, hP, hK, hD0⟩ := hv
  have hx := B.exec
  have hb := B.bytes
  have hr := B.returns
  have hts := atoms_spec (ws := wsX12_odds) B.pre
  have hown : s.vm.findClass RX12 = some m.cls := findClass_of_methodNamed B.named
  have hlocks := B.notSynchronized
  subst hsz
  have hD := hD0.self (sz := s.heap.size)
  generalize hAe : va_A [(mo, .inr (12, [.ref nw, .ref kp, .ref ik, .ref mr, .long 0, .long 1, .ref mw, .long 0, .int 0, .int 0, .long 0, .long 0, .ref mq, .ref mz, .ref my, .int 0, .ref mb, .int 0, .int 0, .int 0, .int 0, .int 0, .ref mx, .ref mv])), (mr, .inl (cm, 3, .inl (fun _ => 0)))] s.heap.size = A at hD ⊢
  have hA : ∀ q : Nat, s.heap.size ≤ q → A q := fun q h => by rw [← hAe]; exact Or.inr h
  have hS : va_S A s.heap s.heap [] := va_S.rf
  have hP : va_P (dC, dI) vwCl [(mo, .inr (12, [.ref nw, .ref kp, .ref ik, .ref mr, .long 0, .long 1, .ref mw, .long 0, .int 0, .int 0, .long 0, .long 0, .ref mq, .ref mz, .ref my, .int 0, .ref mb, .int 0, .int 0, .int 0, .int 0, .int 0, .ref mx, .ref mv])), (mr, .inl (cm, 3, .inl (fun _ => 0)))] s.heap := hP
  have hl := lv_entry ([.ref mo, .int na, .int nb]) (n := 3) (Nat.le_of_ble_eq_true rfl)
  rw [lg_entry_eq]
  generalize (lg_sl ([.ref mo, .int na, .int nb]) ++ List.replicate (3 - (lg_sl ([.ref mo, .int na, .int nb])).length) Slot.unset).toArray = ls at hl ⊢
  have hl : lv_has ls 3 [(0, .ref mo), (1, .int na), (2, .int nb)] := hl
  refine lv_iload_n hx hb dX12_odds_0 rfl (lv_at hl 1 rfl) ?_
  refine vp_callSi (va_Run.run (va_runS (As := [.int na]) (rest := []) ⟨hx, hb, hml, hown, hts⟩ (k_m_isWay l dC dI na) (va_cwS 1 hts gX12_odds_X12_isWay rfl rfl rfl (by decide +kernel) ⟨Nat.le_of_ble_eq_true rfl, Nat.le_of_ble_eq_true rfl⟩) ⟨fun a U g mk q => ⟨q.1, trivial⟩, fun U hU hW => ⟨rfl, trivial⟩⟩ rfl rfl hl.1 rfl (lv_room (Nat.le_of_ble_eq_true rfl)) dX12_odds_1 ⟨Nat.le_of_ble_eq_true rfl, Nat.le_of_ble_eq_true rfl⟩)) (fun r_1 hw_2 => ?_)
  by_cases hc_3 : 0 ≤ na ∧ na ≤ 5
  · obtain rfl : 1 = r_1 := (hw_2.trans (if_pos hc_3)).symm
    refine lv_if_eq (tgt := 29) hx hb dX12_odds_4 (by decide) (fun c_4 => ?_) (fun c_4 => ?_)
    · exact absurd c_4 (by decide)
    · refine lv_iload_n hx hb dX12_odds_7 rfl (lv_at hl 2 rfl) ?_
      refine lv_i2l (v := nb.toInt64) hx hb dX12_odds_8 rfl ?_
      refine lv_ldc2 hx hb hown (hts (.constantLong RX12 137 (-40)) (by decide +kernel)) dX12_odds_9 ?_
      refine lv_ldc2 hx hb hown (hts (.constantLong RX12 139 (40)) (by decide +kernel)) dX12_odds_12 ?_
      refine vp_callSi (va_Run.run (va_runS (As := [.long nb.toInt64, .long (-40), .long 40]) (rest := []) ⟨hx, hb, hml, hown, hts⟩ (k_in l dC dI nb.toInt64 (-40) 40) (va_cwS 3 hts gX12_odds_X12_in rfl rfl rfl (by decide +kernel) ⟨Nat.le_of_ble_eq_true rfl, Nat.le_of_ble_eq_true rfl⟩) ⟨fun a U g mk q => ⟨q.1, trivial⟩, fun U hU hW => ⟨rfl, trivial⟩⟩ rfl rfl hl.1 rfl (lv_room (Nat.le_of_ble_eq_true rfl)) dX12_odds_15 ⟨Nat.le_of_ble_eq_true rfl, Nat.le_of_ble_eq_true rfl⟩)) (fun r_5 hw_6 => ?_)
      by_cases hc_7 : (-40) ≤ nb ∧ nb ≤ 40
      · obtain rfl : 1 = r_5 := (hw_6.trans (if_pos ((tz_in64 (by first | rfl | decide) rfl (by first | rfl | decide)).mpr hc_7))).symm
        refine lv_if_eq (tgt := 29) hx hb dX12_odds_18 (by decide) (fun c_8 => ?_) (fun c_8 => ?_)
        · exact absurd c_8 (by decide)
        · refine lv_iload_n hx hb dX12_odds_21 rfl (lv_at hl 1 rfl) ?_
          refine lv_iload_n hx hb dX12_odds_22 rfl (lv_at hl 2 rfl) ?_
          refine vp_callSi (va_Run.run (va_runS (As := [.int na, .int nb]) (rest := []) ⟨hx, hb, hml, hown, hts⟩ (k_oddsOf l dC dI na nb hc_3) (va_cwS 2 hts gX12_odds_X12_oddsOf rfl rfl rfl (by decide +kernel) ⟨Nat.le_of_ble_eq_true rfl, Nat.le_of_ble_eq_true rfl⟩) ⟨fun a U g mk q => ⟨q.1, trivial⟩, fun U hU hW => ⟨rfl, trivial⟩⟩ rfl rfl hl.1 rfl (lv_room (Nat.le_of_ble_eq_true rfl)) dX12_odds_23 ⟨Nat.le_of_ble_eq_true rfl, Nat.le_of_ble_eq_true rfl⟩)) (fun r_9 hw_10 => ?_)
          obtain rfl : (zN (yS na) nb 20) = r_9 := hw_10.symm
          refine lv_goto (tgt := 35) hx hb dX12_odds_26 (by decide) ?_
          exact W.iret (v := (zN (yS na) nb 20)) hx hb hr (fun t ht hW => ⟨⟨(zN (yS na) nb 20), (), rfl, ((if_pos hc_3).trans (if_pos hc_7)).symm, trivial⟩, hS.F ht⟩) hS.2.2 dX12_odds_35
      · obtain rfl : 0 = r_5 := (hw_6.trans (if_neg (fun z => hc_7 ((tz_in64 (by first | rfl | decide) rfl (by first | rfl | decide)).mp z)))).symm
        refine lv_if_eq (tgt := 29) hx hb dX12_odds_18 (by decide) (fun c_11 => ?_) (fun c_11 => ?_)
        · refine lv_aload_n hx hb dX12_odds_29 rfl (lv_at hl 0 rfl) ?_
          refine lv_bipush (v := (-2)) hx hb dX12_odds_30 (by decide) ?_
          have hPc := hP.sub (ws' := [(mo, .inr (12, [.ref nw, .ref kp, .ref ik, .ref mr, .long 0, .long 1, .ref mw, .long 0, .int 0, .int 0, .long 0, .long 0, .ref mq, .ref mz, .ref my, .int 0, .ref mb, .int 0, .int 0, .int 0, .int 0, .int 0, .ref mx, .ref mv])), (mr, .inl (cm, 3, .inl (fun _ => 0)))]) [0, 1] rfl
          have hDc := hD.sub (ws' := [(mo, .inr (12, [.ref nw, .ref kp, .ref ik, .ref mr, .long 0, .long 1, .ref mw, .long 0, .int 0, .int 0, .long 0, .long 0, .ref mq, .ref mz, .ref my, .int 0, .ref mb, .int 0, .int 0, .int 0, .int 0, .int 0, .ref mx, .ref mv])), (mr, .inl (cm, 3, .inl (fun _ => 0)))]) [0, 1] (by decide) rfl
          have hKc := hK.sub (tys' := [(cm, .int)]) [0] rfl
          have hFc := va_free (wc := [(mo, .inr (12, [.ref nw, .ref kp, .ref ik, .ref mr, .long 0, .long 1, .ref mw, .long 0, .int 0, .int 0, .long 0, .long 0, .ref mq, .ref mz, .ref my, .int 0, .ref mb, .int 0, .int 0, .int 0, .int 0, .int 0, .ref mx, .ref mv])), (mr, .inl (cm, 3, .inl (fun _ => 0)))]) hD hS hA [0, 1] rfl
          refine va_calli (va_runV (As := [.int (-2)]) (rest := []) ⟨hx, hb, hml, hown, hts⟩ (k_bad l dC dI mo nw kp ik mr mw mq mz my mb mx mv cm (-2) s.heap.size) (cwV 1 hts gX12_odds_X12_bad rfl rfl rfl (by decide +kernel) ⟨Nat.le_of_ble_eq_true rfl, Nat.le_of_ble_eq_true rfl⟩) ⟨fun a U g mk q => by obtain ⟨q0, q1, qP, qK, qD⟩ := q; exact ⟨q0, q1, qP, va_K.moved (u := U) (U := U.calling g mk a) (Vm.Alike.refl U.vm) qK, qD⟩, va_recv hK hP (ci := 12) (q0 := 0) rfl rfl, fun U hU hW => ⟨rfl, by rw [hU], by rw [hU]; exact hPc, va_K.moved hW.alike hKc, hDc.weaken (fun _ _ _ _ => trivial)⟩⟩ rfl rfl hl.1 rfl (lv_room (Nat.le_of_ble_eq_true rfl)) dX12_odds_32 ⟨Nat.le_of_ble_eq_true rfl, Nat.le_of_ble_eq_true rfl⟩) hS (fun q _ h => hFc q h) hFc (fun r_12 u_ t H1 locs ht hvm hw_13 hB hz1 hk1 hS => ?_)
          obtain ⟨hP, hD⟩ := va_join (wr := []) (w1 := []) hP hD [0, 1] [] rfl rfl (by decide) (by decide) hk1 hFc tz_P0 tz_D0
          generalize H1 = H at hP hS ⊢
          have hP : va_P (dC, dI) vwCl [] H := hP
          have hD : va_D A [] := hD
          obtain rfl : (-2) = r_12 := hw_13.symm
          exact W.iret (v := (-2)) hx hb hr (fun t ht hW => ⟨⟨(-2), (), rfl, ((if_pos hc_3).trans (if_neg hc_7)).symm, trivial⟩, hS.F ht⟩) hS.2.2 dX12_odds_35
        · exact absurd c_11 (by decide)
  · obtain rfl : 0 = r_1 := (hw_2.trans (if_neg hc_3)).symm
    refine lv_if_eq (tgt := 29) hx hb dX12_odds_4 (by decide) (fun c_14 => ?_) (fun c_14 => ?_)
    · refine lv_aload_n hx hb dX12_odds_29 rfl (lv_at hl 0 rfl) ?_
      refine lv_bipush (v := (-2)) hx hb dX12_odds_30 (by decide) ?_
      have hPc := hP.sub (ws' := [(mo, .inr (12, [.ref nw, .ref kp, .ref ik, .ref mr, .long 0, .long 1, .ref mw, .long 0, .int 0, .int 0, .long 0, .long 0, .ref mq, .ref mz, .ref my, .int 0, .ref mb, .int 0, .int 0, .int 0, .int 0, .int 0, .ref mx, .ref mv])), (mr, .inl (cm, 3, .inl (fun _ => 0)))]) [0, 1] rfl
      have hDc := hD.sub (ws' := [(mo, .inr (12, [.ref nw, .ref kp, .ref ik, .ref mr, .long 0, .long 1, .ref mw, .long 0, .int 0, .int 0, .long 0, .long 0, .ref mq, .ref mz, .ref my, .int 0, .ref mb, .int 0, .int 0, .int 0, .int 0, .int 0, .ref mx, .ref mv])), (mr, .inl (cm, 3, .inl (fun _ => 0)))]) [0, 1] (by decide) rfl
      have hKc := hK.sub (tys' := [(cm, .int)]) [0] rfl
      have hFc := va_free (wc := [(mo, .inr (12, [.ref nw, .ref kp, .ref ik, .ref mr, .long 0, .long 1, .ref mw, .long 0, .int 0, .int 0, .long 0, .long 0, .ref mq, .ref mz, .ref my, .int 0, .ref mb, .int 0, .int 0, .int 0, .int 0, .int 0, .ref mx, .ref mv])), (mr, .inl (cm, 3, .inl (fun _ => 0)))]) hD hS hA [0, 1] rfl
      refine va_calli (va_runV (As := [.int (-2)]) (rest := []) ⟨hx, hb, hml, hown, hts⟩ (k_bad l dC dI mo nw kp ik mr mw mq mz my mb mx mv cm (-2) s.heap.size) (cwV 1 hts gX12_odds_X12_bad rfl rfl rfl (by decide +kernel) ⟨Nat.le_of_ble_eq_true rfl, Nat.le_of_ble_eq_true rfl⟩) ⟨fun a U g mk q => by obtain ⟨q0, q1, qP, qK, qD⟩ := q; exact ⟨q0, q1, qP, va_K.moved (u := U) (U := U.calling g mk a) (Vm.Alike.refl U.vm) qK, qD⟩, va_recv hK hP (ci := 12) (q0 := 0) rfl rfl, fun U hU hW => ⟨rfl, by rw [hU], by rw [hU]; exact hPc, va_K.moved hW.alike hKc, hDc.weaken (fun _ _ _ _ => trivial)⟩⟩ rfl rfl hl.1 rfl (lv_room (Nat.le_of_ble_eq_true rfl)) dX12_odds_32 ⟨Nat.le_of_ble_eq_true rfl, Nat.le_of_ble_eq_true rfl⟩) hS (fun q _ h => hFc q h) hFc (fun r_15 u_ t H1 locs ht hvm hw_16 hB hz1 hk1 hS => ?_)
      obtain ⟨hP, hD⟩ := va_join (wr := []) (w1 := []) hP hD [0, 1] [] rfl rfl (by decide) (by decide) hk1 hFc tz_P0 tz_D0
      generalize H1 = H at hP hS ⊢
      have hP : va_P (dC, dI) vwCl [] H := hP
      have hD : va_D A [] := hD
      obtain rfl : (-2) = r_15 := hw_16.symm
      exact W.iret (v := (-2)) hx hb hr (fun t ht hW => ⟨⟨(-2), (), rfl, (if_neg hc_3).symm, trivial⟩, hS.F ht⟩) hS.2.2 dX12_odds_35
    · exact absurd c_14 (by decide)
set_option maxRecDepth 20000 in
theorem ggX12_cause_X12_in : GoodIn wsX12_cause wsX12_in := goodIn_r _ [10] (by decide +kernel) (by decide +kernel)
set_option maxRecDepth 20000 in
theorem gX12_cause_X12_in : GoodIn wsX12_cause (va_wsS RX12 49 yX12_in wsX12_in) := goodIn_app (goodIn_of _ (by decide +kernel)) ggX12_cause_X12_in
set_option maxRecDepth 20000 in
theorem ggX12_cause_X12_bad : GoodIn wsX12_cause wsX12_bad := goodIn_r _ [14, 15, 20, 21, 22, 23, 24, 25, 26, 27, 28, 29, 30, 31, 32, 33, 34, 35, 36, 37, 38, 39, 40, 41, 42, 43] (by decide +kernel) (by decide +kernel)
set_option maxRecDepth 20000 in
theorem gX12_cause_X12_bad : GoodIn wsX12_cause (wsV RX12 61 RX12 yX12_bad wsX12_bad) := goodIn_app (goodIn_of _ (by decide +kernel)) ggX12_cause_X12_bad
theorem dX12_cause_0 : decode cX12_cause 0 = .ok (.iload_n 1, 1) := by decide +kernel
theorem dX12_cause_1 : decode cX12_cause 1 = .ok (.i2l, 1) := by decide +kernel
theorem dX12_cause_2 : decode cX12_cause 2 = .ok (.ldc2_w 202, 3) := by decide +kernel
theorem dX12_cause_5 : decode cX12_cause 5 = .ok (.ldc2_w 204, 3) := by decide +kernel
theorem dX12_cause_8 : decode cX12_cause 8 = .ok (.invokestatic 49, 3) := by decide +kernel
theorem dX12_cause_11 : decode cX12_cause 11 = .ok (.ifCond .eq 40, 3) := by decide +kernel
theorem dX12_cause_14 : decode cX12_cause 14 = .ok (.iload_n 2, 1) := by decide +kernel
theorem dX12_cause_15 : decode cX12_cause 15 = .ok (.i2l, 1) := by decide +kernel
theorem dX12_cause_16 : decode cX12_cause 16 = .ok (.lconst 1, 1) := by decide +kernel
theorem dX12_cause_17 : decode cX12_cause 17 = .ok (.ldc2_w 206, 3) := by decide +kernel
theorem dX12_cause_20 : decode cX12_cause 20 = .ok (.invokestatic 49, 3) := by decide +kernel
theorem dX12_cause_23 : decode cX12_cause 23 = .ok (.ifCond .eq 28, 3) := by decide +kernel
theorem dX12_cause_26 : decode cX12_cause 26 = .ok (.iload_n 3, 1) := by decide +kernel
theorem dX12_cause_27 : decode cX12_cause 27 = .ok (.i2l, 1) := by decide +kernel
theorem dX12_cause_28 : decode cX12_cause 28 = .ok (.lconst 0, 1) := by decide +kernel
theorem dX12_cause_29 : decode cX12_cause 29 = .ok (.ldc2_w 192, 3) := by decide +kernel
theorem dX12_cause_32 : decode cX12_cause 32 = .ok (.invokestatic 49, 3) := by decide +kernel
theorem dX12_cause_35 : decode cX12_cause 35 = .ok (.ifCond .eq 16, 3) := by decide +kernel
theorem dX12_cause_38 : decode cX12_cause 38 = .ok (.iload 4, 2) := by decide +kernel
theorem dX12_cause_40 : decode cX12_cause 40 = .ok (.i2l, 1) := by decide +kernel
theorem dX12_cause_41 : decode cX12_cause 41 = .ok (.lconst 0, 1) := by decide +kernel
theorem dX12_cause_42 : decode cX12_cause 42 = .ok (.ldc2_w 59, 3) := by decide +kernel
theorem dX12_cause_45 : decode cX12_cause 45 = .ok (.invokestatic 49, 3) := by decide +kernel
theorem dX12_cause_48 : decode cX12_cause 48 = .ok (.ifCond .ne 10, 3) := by decide +kernel
theorem dX12_cause_58 : decode cX12_cause 58 = .ok (.aload_n 0, 1) := by decide +kernel
theorem dX12_cause_59 : decode cX12_cause 59 = .ok (.getfield 7, 3) := by decide +kernel
theorem dX12_cause_62 : decode cX12_cause 62 = .ok (.iconst 3, 1) := by decide +kernel
theorem dX12_cause_63 : decode cX12_cause 63 = .ok (.iaload, 1) := by decide +kernel
theorem dX12_cause_64 : decode cX12_cause 64 = .ok (.bipush 6, 2) := by decide +kernel
theorem dX12_cause_66 : decode cX12_cause 66 = .ok (.if_icmp .ne 8, 3) := by decide +kernel
theorem dX12_cause_74 : decode cX12_cause 74 = .ok (.bipush 62, 2) := by decide +kernel
theorem dX12_cause_76 : decode cX12_cause 76 = .ok (.iconst 4, 1) := by decide +kernel
theorem dX12_cause_77 : decode cX12_cause 77 = .ok (.aload_n 0, 1) := by decide +kernel
theorem dX12_cause_78 : decode cX12_cause 78 = .ok (.getfield 7, 3) := by decide +kernel
theorem dX12_cause_81 : decode cX12_cause 81 = .ok (.iconst 3, 1) := by decide +kernel
theorem dX12_cause_82 : decode cX12_cause 82 = .ok (.iaload, 1) := by decide +kernel
theorem dX12_cause_83 : decode cX12_cause 83 = .ok (.imul, 1) := by decide +kernel
theorem dX12_cause_84 : decode cX12_cause 84 = .ok (.iadd, 1) := by decide +kernel
theorem dX12_cause_85 : decode cX12_cause 85 = .ok (.istore 5, 2) := by decide +kernel
theorem dX12_cause_87 : decode cX12_cause 87 = .ok (.aload_n 0, 1) := by decide +kernel
theorem dX12_cause_88 : decode cX12_cause 88 = .ok (.getfield 7, 3) := by decide +kernel
theorem dX12_cause_91 : decode cX12_cause 91 = .ok (.iload 5, 2) := by decide +kernel
theorem dX12_cause_93 : decode cX12_cause 93 = .ok (.iconst 0, 1) := by decide +kernel
theorem dX12_cause_94 : decode cX12_cause 94 = .ok (.iadd, 1) := by decide +kernel
theorem dX12_cause_95 : decode cX12_cause 95 = .ok (.iload_n 1, 1) := by decide +kernel
theorem dX12_cause_96 : decode cX12_cause 96 = .ok (.iastore, 1) := by decide +kernel
theorem dX12_cause_97 : decode cX12_cause 97 = .ok (.aload_n 0, 1) := by decide +kernel
theorem dX12_cause_98 : decode cX12_cause 98 = .ok (.getfield 7, 3) := by decide +kernel
theorem dX12_cause_101 : decode cX12_cause 101 = .ok (.iload 5, 2) := by decide +kernel
theorem dX12_cause_103 : decode cX12_cause 103 = .ok (.iconst 1, 1) := by decide +kernel
theorem dX12_cause_104 : decode cX12_cause 104 = .ok (.iadd, 1) := by decide +kernel
theorem dX12_cause_105 : decode cX12_cause 105 = .ok (.iload_n 2, 1) := by decide +kernel
theorem dX12_cause_106 : decode cX12_cause 106 = .ok (.iastore, 1) := by decide +kernel
theorem dX12_cause_107 : decode cX12_cause 107 = .ok (.aload_n 0, 1) := by decide +kernel
theorem dX12_cause_108 : decode cX12_cause 108 = .ok (.getfield 7, 3) := by decide +kernel
theorem dX12_cause_111 : decode cX12_cause 111 = .ok (.iload 5, 2) := by decide +kernel
theorem dX12_cause_113 : decode cX12_cause 113 = .ok (.iconst 2, 1) := by decide +kernel
theorem dX12_cause_114 : decode cX12_cause 114 = .ok (.iadd, 1) := by decide +kernel
theorem dX12_cause_115 : decode cX12_cause 115 = .ok (.iload_n 3, 1) := by decide +kernel
theorem dX12_cause_116 : decode cX12_cause 116 = .ok (.iastore, 1) := by decide +kernel
theorem dX12_cause_117 : decode cX12_cause 117 = .ok (.aload_n 0, 1) := by decide +kernel
theorem dX12_cause_118 : decode cX12_cause 118 = .ok (.getfield 7, 3) := by decide +kernel
theorem dX12_cause_121 : decode cX12_cause 121 = .ok (.iload 5, 2) := by decide +kernel
theorem dX12_cause_123 : decode cX12_cause 123 = .ok (.iconst 3, 1) := by decide +kernel
theorem dX12_cause_124 : decode cX12_cause 124 = .ok (.iadd, 1) := by decide +kernel
theorem dX12_cause_125 : decode cX12_cause 125 = .ok (.iload 4, 2) := by decide +kernel
theorem dX12_cause_127 : decode cX12_cause 127 = .ok (.iastore, 1) := by decide +kernel
theorem dX12_cause_128 : decode cX12_cause 128 = .ok (.aload_n 0, 1) := by decide +kernel
theorem dX12_cause_129 : decode cX12_cause 129 = .ok (.getfield 7, 3) := by decide +kernel
theorem dX12_cause_132 : decode cX12_cause 132 = .ok (.iconst 3, 1) := by decide +kernel
theorem dX12_cause_133 : decode cX12_cause 133 = .ok (.dup2, 1) := by decide +kernel
theorem dX12_cause_134 : decode cX12_cause 134 = .ok (.iaload, 1) := by decide +kernel
theorem dX12_cause_135 : decode cX12_cause 135 = .ok (.iconst 1, 1) := by decide +kernel
theorem dX12_cause_136 : decode cX12_cause 136 = .ok (.iadd, 1) := by decide +kernel
theorem dX12_cause_137 : decode cX12_cause 137 = .ok (.iastore, 1) := by decide +kernel
theorem dX12_cause_138 : decode cX12_cause 138 = .ok (.aload_n 0, 1) := by decide +kernel
theorem dX12_cause_139 : decode cX12_cause 139 = .ok (.getfield 7, 3) := by decide +kernel
theorem dX12_cause_142 : decode cX12_cause 142 = .ok (.iconst 3, 1) := by decide +kernel
theorem dX12_cause_143 : decode cX12_cause 143 = .ok (.iaload, 1) := by decide +kernel
theorem dX12_cause_144 : decode cX12_cause 144 = .ok (.iconst 1, 1) := by decide +kernel
theorem dX12_cause_145 : decode cX12_cause 145 = .ok (.isub, 1) := by decide +kernel
theorem dX12_cause_146 : decode cX12_cause 146 = .ok (.ireturn, 1) := by decide +kernel
theorem dX12_cause_51 : decode cX12_cause 51 = .ok (.aload_n 0, 1) := by decide +kernel
theorem dX12_cause_52 : decode cX12_cause 52 = .ok (.bipush (-2), 2) := by decide +kernel
theorem dX12_cause_54 : decode cX12_cause 54 = .ok (.invokevirtual 61, 3) := by decide +kernel
theorem dX12_cause_57 : decode cX12_cause 57 = .ok (.ireturn, 1) := by decide +kernel
set_option maxRecDepth 20000 in
theorem iw_k_m_cause_X12 : ∀ w ∈ wsX120, w ∈ wsX12_cause := by decide +kernel
set_option maxHeartbeats 4000000 in
set_option maxRecDepth 100000 in
theorem k_m_cause (l : Launch) (dC : Nat → ClassId) (dI : Nat → Nat → Nat) (mo : Nat) (nw : Nat) (kp : Nat) (ik : Nat) (mr : Nat) (mw : Nat) (mq : Nat) (mz : Nat) (my : Nat) (mb : Nat) (mx : Nat) (mv : Nat) (cn : ClassId) (cm : ClassId) (na : Int32) (nb : Int32) (nc : Int32) (nd : Int32) (sz : Nat) : Met l yX12_cause wsX12_cause ({ frames := 1, cells := 0, slots := 0, locals := 25 }) (va_Pc [.ref mo, .int na, .int nb, .int nc, .int nd] (fun U => U.heap.size = sz ∧ va_P (dC, dI) vwCl [(mo, .inr (12, [.ref nw, .ref kp, .ref ik, .ref mr, .long 0, .long 1, .ref mw, .long 0, .int 0, .int 0, .long 0, .long 0, .ref mq, .ref mz, .ref my, .int 0, .ref mb, .int 0, .int 0, .int 0, .int 0, .int 0, .ref mx, .ref mv])), (nw, .inl (cn, 350, .inl (fun _ => 0))), (mr, .inl (cm, 3, .inl (fun _ => 0)))] U.heap ∧ va_K (dC, dI) vwCl [(cn, .int), (cm, .int)] U ∧ va_D (fun _ => True) [(mo, .inr (12, [.ref nw, .ref kp, .ref ik, .ref mr, .long 0, .long 1, .ref mw, .long 0, .int 0, .int 0, .long 0, .long 0, .ref mq, .ref mz, .ref my, .int 0, .ref mb, .int 0, .int 0, .int 0, .int 0, .int 0, .ref mx, .ref mv])), (nw, .inl (cn, 350, .inl (fun _ => 0))), (mr, .inl (cm, 3, .inl (fun _ => 0)))])) (va_Qi (fun (r : Int32) (_ : Unit) => r = (if (-99) ≤ na ∧ na ≤ 99 then (if 1 ≤ nb ∧ nb ≤ 20 then (if 0 ≤ nc ∧ nc ≤ 30 then (if 0 ≤ nd ∧ nd ≤ 10 then 0 else (-2)) else (-2)) else (-2)) else (-2))) (fun _ _ => True) (va_A [(mo, .inr (12, [.ref nw, .ref kp, .ref ik, .ref mr, .long 0, .long 1, .ref mw, .long 0, .int 0, .int 0, .long 0, .long 0, .ref mq, .ref mz, .ref my, .int 0, .ref mb, .int 0, .int 0, .int 0, .int 0, .int 0, .ref mx, .ref mv])), (nw, .inl (cn, 350, .inl (fun _ => 0))), (mr, .inl (cm, 3, .inl (fun _ => 0)))] sz)) 0 0 (va_A [(mo, .inr (12, [.ref nw, .ref kp, .ref ik, .ref mr, .long 0, .long 1, .ref mw, .long 0, .int 0, .int 0, .long 0, .long 0, .ref mq, .ref mz, .ref my, .int 0, .ref mb, .int 0, .int 0, .int 0, .int 0, .int 0, .ref mx, .ref mv])), (nw, .inl (cn, 350, .inl (fun _ => 0))), (mr, .inl (cm, 3, .inl (fun _ => 0)))] sz) := by
  refine Met.ofW (cc := cX12_cause) (maxL := 6) (ret := (some .int)) (by decide) rfl ?_
  intro p e s m args below meth c s₁ B hml hv
  obtain ⟨rfl, hsz, hP, hK, hD0⟩ := hv
  have hx := B.exec
  have hb := B.bytes
  have hr := B.returns
  have hts := atoms_spec (ws := wsX12_cause) B.pre
  have hown : s.vm.findClass RX12 = some m.cls := findClass_of_methodNamed B.named
  have hlocks := B.notSynchronized
  subst hsz
  have hD := hD0.self (sz := s.heap.size)
  generalize hAe : va_A [(mo, .inr (12, [.ref nw, .ref kp, .ref ik, .ref mr, .long 0, .long 1, .ref mw, .long 0, .int 0, .int 0, .long 0, .long 0, .ref mq, .ref mz, .ref my, .int 0, .ref mb, .int 0, .int 0, .int 0, .int 0, .int 0, .ref mx, .ref mv])), (nw, .inl (cn, 350, .inl (fun _ => 0))), (mr, .inl (cm, 3, .inl (fun _ => 0)))] s.heap.size = A at hD ⊢
  have hA : ∀ q : Nat, s.heap.size ≤ q → A q := fun q h => by rw [← hAe]; exact Or.inr h
  have hS : va_S A s.heap s.heap [] := va_S.rf
  have hP : va_P (dC, dI) vwCl [(mo, .inr (12, [.ref nw, .ref kp, .ref ik, .ref mr, .long 0, .long 1, .ref mw, .long 0, .int 0, .int 0, .long 0, .long 0, .ref mq, .ref mz, .ref my, .int 0, .ref mb, .int 0, .int 0, .int 0, .int 0, .int 0, .ref mx, .ref mv])), (nw, .inl (cn, 350, .inl (fun _ => 0))), (mr, .inl (cm, 3, .inl (fun _ => 0)))] s.heap := hP
  have hl := lv_entry ([.ref mo, .int na, .int nb, .int nc, .int nd]) (n := 6) (Nat.le_of_ble_eq_true rfl)
  rw [lg_entry_eq]
  generalize (lg_sl ([.ref mo, .int na, .int nb, .int nc, .int nd]) ++ List.replicate (6 - (lg_sl ([.ref mo, .int na, .int nb, .int nc, .int nd])).length) Slot.unset).toArray = ls at hl ⊢
  have hl : lv_has ls 6 [(0, .ref mo), (1, .int na), (2, .int nb), (3, .int nc), (4, .int nd)] := hl
  refine lv_iload_n hx hb dX12_cause_0 rfl (lv_at hl 1 rfl) ?_
  refine lv_i2l (v := na.toInt64) hx hb dX12_cause_1 rfl ?_
  refine lv_ldc2 hx hb hown (hts (.constantLong RX12 202 (-99)) (by decide +kernel)) dX12_cause_2 ?_
  refine lv_ldc2 hx hb hown (hts (.constantLong RX12 204 (99)) (by decide +kernel)) dX12_cause_5 ?_
  refine vp_callSi (va_Run.run (va_runS (As := [.long na.toInt64, .long (-99), .long 99]) (rest := []) ⟨hx, hb, hml, hown, hts⟩ (k_in l dC dI na.toInt64 (-99) 99) (va_cwS 3 hts gX12_cause_X12_in rfl rfl rfl (by decide +kernel) ⟨Nat.le_of_ble_eq_true rfl, Nat.le_of_ble_eq_true rfl⟩) ⟨fun a U g mk q => ⟨q.1, trivial⟩, fun U hU hW => ⟨rfl, trivial⟩⟩ rfl rfl hl.1 rfl (lv_room (Nat.le_of_ble_eq_true rfl)) dX12_cause_8 ⟨Nat.le_of_ble_eq_true rfl, Nat.le_of_ble_eq_true rfl⟩)) (fun r_1 hw_2 => ?_)
  by_cases hc_3 : (-99) ≤ na ∧ na ≤ 99
  · obtain rfl : 1 = r_1 := (hw_2.trans (if_pos ((tz_in64 (by first | rfl | decide) rfl (by first | rfl | decide)).mpr hc_3))).symm
    refine lv_if_eq (tgt := 51) hx hb dX12_cause_11 (by decide) (fun c_4 => ?_) (fun c_4 => ?_)
    · exact absurd c_4 (by decide)
    · refine lv_iload_n hx hb dX12_cause_14 rfl (lv_at hl 2 rfl) ?_
      refine lv_i2l (v := nb.toInt64) hx hb dX12_cause_15 rfl ?_
      refine lv_lconst (v := 1) hx hb dX12_cause_16 (by decide) ?_
      refine lv_ldc2 hx hb hown (hts (.constantLong RX12 206 (20)) (by decide +kernel)) dX12_cause_17 ?_
      refine vp_callSi (va_Run.run (va_runS (As := [.long nb.toInt64, .long 1, .long 20]) (rest := []) ⟨hx, hb, hml, hown, hts⟩ (k_in l dC dI nb.toInt64 1 20) (va_cwS 3 hts gX12_cause_X12_in rfl rfl rfl (by decide +kernel) ⟨Nat.le_of_ble_eq_true rfl, Nat.le_of_ble_eq_true rfl⟩) ⟨fun a U g mk q => ⟨q.1, trivial⟩, fun U hU hW => ⟨rfl, trivial⟩⟩ rfl rfl hl.1 rfl (lv_room (Nat.le_of_ble_eq_true rfl)) dX12_cause_20 ⟨Nat.le_of_ble_eq_true rfl, Nat.le_of_ble_eq_true rfl⟩)) (fun r_5 hw_6 => ?_)
      by_cases hc_7 : 1 ≤ nb ∧ nb ≤ 20
      · obtain rfl : 1 = r_5 := (hw_6.trans (if_pos ((tz_in64 (by first | rfl | decide) rfl (by first | rfl | decide)).mpr hc_7))).symm
        refine lv_if_eq (tgt := 51) hx hb dX12_cause_23 (by decide) (fun c_8 => ?_) (fun c_8 => ?_)
        · exact absurd c_8 (by decide)
        · refine lv_iload_n hx hb dX12_cause_26 rfl (lv_at hl 3 rfl) ?_
          refine lv_i2l (v := nc.toInt64) hx hb dX12_cause_27 rfl ?_
          refine lv_lconst (v := 0) hx hb dX12_cause_28 (by decide) ?_
          refine lv_ldc2 hx hb hown (hts (.constantLong RX12 192 (30)) (by decide +kernel)) dX12_cause_29 ?_
          refine vp_callSi (va_Run.run (va_runS (As := [.long nc.toInt64, .long 0, .long 30]) (rest := []) ⟨hx, hb, hml, hown, hts⟩ (k_in l dC dI nc.toInt64 0 30) (va_cwS 3 hts gX12_cause_X12_in rfl rfl rfl (by decide +kernel) ⟨Nat.le_of_ble_eq_true rfl, Nat.le_of_ble_eq_true rfl⟩) ⟨fun a U g mk q => ⟨q.1, trivial⟩, fun U hU hW => ⟨rfl, trivial⟩⟩ rfl rfl hl.1 rfl (lv_room (Nat.le_of_ble_eq_true rfl)) dX12_cause_32 ⟨Nat.le_of_ble_eq_true rfl, Nat.le_of_ble_eq_true rfl⟩)) (fun r_9 hw_10 => ?_)
          by_cases hc_11 : 0 ≤ nc ∧ nc ≤ 30
          · obtain rfl : 1 = r_9 := (hw_10.trans (if_pos ((tz_in64 (by first | rfl | decide) rfl (by first | rfl | decide)).mpr hc_11))).symm
            refine lv_if_eq (tgt := 51) hx hb dX12_cause_35 (by decide) (fun c_12 => ?_) (fun c_12 => ?_)
            · exact absurd c_12 (by decide)
            · refine lv_iload hx hb dX12_cause_38 (lv_at hl 4 rfl) ?_
              refine lv_i2l (v := nd.toInt64) hx hb dX12_cause_40 rfl ?_
              refine lv_lconst (v := 0) hx hb dX12_cause_41 (by decide) ?_
              refine lv_ldc2 hx hb hown (hts (.constantLong RX12 59 (10)) (by decide +kernel)) dX12_cause_42 ?_
              refine vp_callSi (va_Run.run (va_runS (As := [.long nd.toInt64, .long 0, .long 10]) (rest := []) ⟨hx, hb, hml, hown, hts⟩ (k_in l dC dI nd.toInt64 0 10) (va_cwS 3 hts gX12_cause_X12_in rfl rfl rfl (by decide +kernel) ⟨Nat.le_of_ble_eq_true rfl, Nat.le_of_ble_eq_true rfl⟩) ⟨fun a U g mk q => ⟨q.1, trivial⟩, fun U hU hW => ⟨rfl, trivial⟩⟩ rfl rfl hl.1 rfl (lv_room (Nat.le_of_ble_eq_true rfl)) dX12_cause_45 ⟨Nat.le_of_ble_eq_true rfl, Nat.le_of_ble_eq_true rfl⟩)) (fun r_13 hw_14 => ?_)
              by_cases hc_15 : 0 ≤ nd ∧ nd ≤ 10
              · obtain rfl : 1 = r_13 := (hw_14.trans (if_pos ((tz_in64 (by first | rfl | decide) rfl (by first | rfl | decide)).mpr hc_15))).symm
                refine lv_if_ne (tgt := 58) hx hb dX12_cause_48 (by decide) (fun c_16 => ?_) (fun c_16 => ?_)
                · refine lv_aload_n hx hb dX12_cause_58 rfl (lv_at hl 0 rfl) ?_
                  refine va_get (D := (dC, dI)) (ci := 12) (v := .ref nw) (C := RX12) (T := TX12) (N := 24) hx hb hts iw_k_m_cause_X12 hown hK hP 0 rfl rfl 0 (by decide) (hts (.fieldLink RX12 7 "ThriceCountedModel" "now" "[I") (by decide +kernel)) (fun _ h9 => h9) rfl dX12_cause_59 ?_
                  refine lv_iconst (v := 3) hx hb dX12_cause_62 (by decide) ?_
                  refine va_iald hx hb hK hP 1 0 rfl rfl (show ¬ ((3 : Int32) < 0 ∨ 350 ≤ (3 : Int32).toNatClampNeg) by decide) dX12_cause_63 ?_
                  refine tz_i 0 rfl ?_
                  refine lv_bipush (v := 6) hx hb dX12_cause_64 (by decide) ?_
                  refine lv_icmp_ne (tgt := 74) hx hb dX12_cause_66 (by decide) (fun c_17 => ?_) (fun c_17 => ?_)
                  · refine lv_bipush (v := 62) hx hb dX12_cause_74 (by decide) ?_
                    refine lv_iconst (v := 4) hx hb dX12_cause_76 (by decide) ?_
                    refine lv_aload_n hx hb dX12_cause_77 rfl (lv_at hl 0 rfl) ?_
                    refine va_get (D := (dC, dI)) (ci := 12) (v := .ref nw) (C := RX12) (T := TX12) (N := 24) hx hb hts iw_k_m_cause_X12 hown hK hP 0 rfl rfl 0 (by decide) (hts (.fieldLink RX12 7 "ThriceCountedModel" "now" "[I") (by decide +kernel)) (fun _ h9 => h9) rfl dX12_cause_78 ?_
                    refine lv_iconst (v := 3) hx hb dX12_cause_81 (by decide) ?_
                    refine va_iald hx hb hK hP 1 0 rfl rfl (show ¬ ((3 : Int32) < 0 ∨ 350 ≤ (3 : Int32).toNatClampNeg) by decide) dX12_cause_82 ?_
                    refine tz_i 0 rfl ?_
                    refine lv_imul hx hb dX12_cause_83 ?_
                    refine tz_i 0 (by decide) ?_
                    refine lv_iadd hx hb dX12_cause_84 ?_
                    refine tz_i 62 (by decide) ?_
                    refine lv_istore (lv' := [(5, .int 62), (0, .ref mo), (1, .int na), (2, .int nb), (3, .int nc), (4, .int nd)]) hx hb dX12_cause_85 hl (by decide) rfl (fun ls hl => ?_)
                    refine lv_aload_n hx hb dX12_cause_87 rfl (lv_at hl 1 rfl) ?_
                    refine va_get (D := (dC, dI)) (ci := 12) (v := .ref nw) (C := RX12) (T := TX12) (N := 24) hx hb hts iw_k_m_cause_X12 hown hK hP 0 rfl rfl 0 (by decide) (hts (.fieldLink RX12 7 "ThriceCountedModel" "now" "[I") (by decide +kernel)) (fun _ h9 => h9) rfl dX12_cause_88 ?_
                    refine lv_iload hx hb dX12_cause_91 (lv_at hl 0 rfl) ?_
                    refine lv_iconst (v := 0) hx hb dX12_cause_93 (by decide) ?_
                    refine lv_iadd hx hb dX12_cause_94 ?_
                    refine tz_i 62 (by decide) ?_
                    refine lv_iload_n hx hb dX12_cause_95 rfl (lv_at hl 2 rfl) ?_
                    refine va_iast hx hb hK hP hD hS 1 0 rfl rfl (show ¬ ((62 : Int32) < 0 ∨ 350 ≤ (62 : Int32).toNatClampNeg) by decide) dX12_cause_96 (fun H locs hP hD hS => ?_)
                    have hP : va_P (dC, dI) vwCl [(mo, .inr (12, [.ref nw, .ref kp, .ref ik, .ref mr, .long 0, .long 1, .ref mw, .long 0, .int 0, .int 0, .long 0, .long 0, .ref mq, .ref mz, .ref my, .int 0, .ref mb, .int 0, .int 0, .int 0, .int 0, .int 0, .ref mx, .ref mv])), (nw, .inl (cn, 350, .inl (upd (fun _ => 0) (Int32.toNatClampNeg 62) na))), (mr, .inl (cm, 3, .inl (fun _ => 0)))] H := hP
                    have hD : va_D A [(mo, .inr (12, [.ref nw, .ref kp, .ref ik, .ref mr, .long 0, .long 1, .ref mw, .long 0, .int 0, .int 0, .long 0, .long 0, .ref mq, .ref mz, .ref my, .int 0, .ref mb, .int 0, .int 0, .int 0, .int 0, .int 0, .ref mx, .ref mv])), (nw, .inl (cn, 350, .inl (upd (fun _ => 0) (Int32.toNatClampNeg 62) na))), (mr, .inl (cm, 3, .inl (fun _ => 0)))] := hD
                    refine lv_aload_n hx hb dX12_cause_97 rfl (lv_at hl 1 rfl) ?_
                    refine va_get (D := (dC, dI)) (ci := 12) (v := .ref nw) (C := RX12) (T := TX12) (N := 24) hx hb hts iw_k_m_cause_X12 hown hK hP 0 rfl rfl 0 (by decide) (hts (.fieldLink RX12 7 "ThriceCountedModel" "now" "[I") (by decide +kernel)) (fun _ h9 => h9) rfl dX12_cause_98 ?_
                    refine lv_iload hx hb dX12_cause_101 (lv_at hl 0 rfl) ?_
                    refine lv_iconst (v := 1) hx hb dX12_cause_103 (by decide) ?_
                    refine lv_iadd hx hb dX12_cause_104 ?_
                    refine tz_i 63 (by decide) ?_
                    refine lv_iload_n hx hb dX12_cause_105 rfl (lv_at hl 3 rfl) ?_
                    refine va_iast hx hb hK hP hD hS 1 0 rfl rfl (show ¬ ((63 : Int32) < 0 ∨ 350 ≤ (63 : Int32).toNatClampNeg) by decide) dX12_cause_106 (fun H locs hP hD hS => ?_)
                    have hP : va_P (dC, dI) vwCl [(mo, .inr (12, [.ref nw, .ref kp, .ref ik, .ref mr, .long 0, .long 1, .ref mw, .long 0, .int 0, .int 0, .long 0, .long 0, .ref mq, .ref mz, .ref my, .int 0, .ref mb, .int 0, .int 0, .int 0, .int 0, .int 0, .ref mx, .ref mv])), (nw, .inl (cn, 350, .inl (upd (upd (fun _ => 0) (Int32.toNatClampNeg 62) na) (Int32.toNatClampNeg 63) nb))), (mr, .inl (cm, 3, .inl (fun _ => 0)))] H := hP
                    have hD : va_D A [(mo, .inr (12, [.ref nw, .ref kp, .ref ik, .ref mr, .long 0, .long 1, .ref mw, .long 0, .int 0, .int 0, .long 0, .long 0, .ref mq, .ref mz, .ref my, .int 0, .ref mb, .int 0, .int 0, .int 0, .int 0, .int 0, .ref mx, .ref mv])), (nw, .inl (cn, 350, .inl (upd (upd (fun _ => 0) (Int32.toNatClampNeg 62) na) (Int32.toNatClampNeg 63) nb))), (mr, .inl (cm, 3, .inl (fun _ => 0)))] := hD
                    refine lv_aload_n hx hb dX12_cause_107 rfl (lv_at hl 1 rfl) ?_
                    refine va_get (D := (dC, dI)) (ci := 12) (v := .ref nw) (C := RX12) (T := TX12) (N := 24) hx hb hts iw_k_m_cause_X12 hown hK hP 0 rfl rfl 0 (by decide) (hts (.fieldLink RX12 7 "ThriceCountedModel" "now" "[I") (by decide +kernel)) (fun _ h9 => h9) rfl dX12_cause_108 ?_
                    refine lv_iload hx hb dX12_cause_111 (lv_at hl 0 rfl) ?_
                    refine lv_iconst (v := 2) hx hb dX12_cause_113 (by decide) ?_
                    refine lv_iadd hx hb dX12_cause_114 ?_
                    refine tz_i 64 (by decide) ?_
                    refine lv_iload_n hx hb dX12_cause_115 rfl (lv_at hl 4 rfl) ?_
                    refine va_iast hx hb hK hP hD hS 1 0 rfl rfl (show ¬ ((64 : Int32) < 0 ∨ 350 ≤ (64 : Int32).toNatClampNeg) by decide) dX12_cause_116 (fun H locs hP hD hS => ?_)
                    have hP : va_P (dC, dI) vwCl [(mo, .inr (12, [.ref nw, .ref kp, .ref ik, .ref mr, .long 0, .long 1, .ref mw, .long 0, .int 0, .int 0, .long 0, .long 0, .ref mq, .ref mz, .ref my, .int 0, .ref mb, .int 0, .int 0, .int 0, .int 0, .int 0, .ref mx, .ref mv])), (nw, .inl (cn, 350, .inl (upd (upd (upd (fun _ => 0) (Int32.toNatClampNeg 62) na) (Int32.toNatClampNeg 63) nb) (Int32.toNatClampNeg 64) nc))), (mr, .inl (cm, 3, .inl (fun _ => 0)))] H := hP
                    have hD : va_D A [(mo, .inr (12, [.ref nw, .ref kp, .ref ik, .ref mr, .long 0, .long 1, .ref mw, .long 0, .int 0, .int 0, .long 0, .long 0, .ref mq, .ref mz, .ref my, .int 0, .ref mb, .int 0, .int 0, .int 0, .int 0, .int 0, .ref mx, .ref mv])), (nw, .inl (cn, 350, .inl (upd (upd (upd (fun _ => 0) (Int32.toNatClampNeg 62) na) (Int32.toNatClampNeg 63) nb) (Int32.toNatClampNeg 64) nc))), (mr, .inl (cm, 3, .inl (fun _ => 0)))] := hD
                    refine lv_aload_n hx hb dX12_cause_117 rfl (lv_at hl 1 rfl) ?_
                    refine va_get (D := (dC, dI)) (ci := 12) (v := .ref nw) (C := RX12) (T := TX12) (N := 24) hx hb hts iw_k_m_cause_X12 hown hK hP 0 rfl rfl 0 (by decide) (hts (.fieldLink RX12 7 "ThriceCountedModel" "now" "[I") (by decide +kernel)) (fun _ h9 => h9) rfl dX12_cause_118 ?_
                    refine lv_iload hx hb dX12_cause_121 (lv_at hl 0 rfl) ?_
                    refine lv_iconst (v := 3) hx hb dX12_cause_123 (by decide) ?_
                    refine lv_iadd hx hb dX12_cause_124 ?_
                    refine tz_i 65 (by decide) ?_
                    refine lv_iload hx hb dX12_cause_125 (lv_at hl 5 rfl) ?_
                    refine va_iast hx hb hK hP hD hS 1 0 rfl rfl (show ¬ ((65 : Int32) < 0 ∨ 350 ≤ (65 : Int32).toNatClampNeg) by decide) dX12_cause_127 (fun H locs hP hD hS => ?_)
                    have hP : va_P (dC, dI) vwCl [(mo, .inr (12, [.ref nw, .ref kp, .ref ik, .ref mr, .long 0, .long 1, .ref mw, .long 0, .int 0, .int 0, .long 0, .long 0, .ref mq, .ref mz, .ref my, .int 0, .ref mb, .int 0, .int 0, .int 0, .int 0, .int 0, .ref mx, .ref mv])), (nw, .inl (cn, 350, .inl (upd (upd (upd (upd (fun _ => 0) (Int32.toNatClampNeg 62) na) (Int32.toNatClampNeg 63) nb) (Int32.toNatClampNeg 64) nc) (Int32.toNatClampNeg 65) nd))), (mr, .inl (cm, 3, .inl (fun _ => 0)))] H := hP
                    have hD : va_D A [(mo, .inr (12, [.ref nw, .ref kp, .ref ik, .ref mr, .long 0, .long 1, .ref mw, .long 0, .int 0, .int 0, .long 0, .long 0, .ref mq, .ref mz, .ref my, .int 0, .ref mb, .int 0, .int 0, .int 0, .int 0, .int 0, .ref mx, .ref mv])), (nw, .inl (cn, 350, .inl (upd (upd (upd (upd (fun _ => 0) (Int32.toNatClampNeg 62) na) (Int32.toNatClampNeg 63) nb) (Int32.toNatClampNeg 64) nc) (Int32.toNatClampNeg 65) nd))), (mr, .inl (cm, 3, .inl (fun _ => 0)))] := hD
                    refine lv_aload_n hx hb dX12_cause_128 rfl (lv_at hl 1 rfl) ?_
                    refine va_get (D := (dC, dI)) (ci := 12) (v := .ref nw) (C := RX12) (T := TX12) (N := 24) hx hb hts iw_k_m_cause_X12 hown hK hP 0 rfl rfl 0 (by decide) (hts (.fieldLink RX12 7 "ThriceCountedModel" "now" "[I") (by decide +kernel)) (fun _ h9 => h9) rfl dX12_cause_129 ?_
                    refine lv_iconst (v := 3) hx hb dX12_cause_132 (by decide) ?_
                    refine lv_dup2_11 hx hb dX12_cause_133 rfl rfl ?_
                    refine va_iald hx hb hK hP 1 0 rfl rfl (show ¬ ((3 : Int32) < 0 ∨ 350 ≤ (3 : Int32).toNatClampNeg) by decide) dX12_cause_134 ?_
                    refine tz_i 0 rfl ?_
                    refine lv_iconst (v := 1) hx hb dX12_cause_135 (by decide) ?_
                    refine lv_iadd hx hb dX12_cause_136 ?_
                    refine tz_i 1 (by decide) ?_
                    refine va_iast hx hb hK hP hD hS 1 0 rfl rfl (show ¬ ((3 : Int32) < 0 ∨ 350 ≤ (3 : Int32).toNatClampNeg) by decide) dX12_cause_137 (fun H locs hP hD hS => ?_)
                    have hP : va_P (dC, dI) vwCl [(mo, .inr (12, [.ref nw, .ref kp, .ref ik, .ref mr, .long 0, .long 1, .ref mw, .long 0, .int 0, .int 0, .long 0, .long 0, .ref mq, .ref mz, .ref my, .int 0, .ref mb, .int 0, .int 0, .int 0, .int 0, .int 0, .ref mx, .ref mv])), (nw, .inl (cn, 350, .inl (upd (upd (upd (upd (upd (fun _ => 0) (Int32.toNatClampNeg 62) na) (Int32.toNatClampNeg 63) nb) (Int32.toNatClampNeg 64) nc) (Int32.toNatClampNeg 65) nd) (Int32.toNatClampNeg 3) 1))), (mr, .inl (cm, 3, .inl (fun _ => 0)))] H := hP
                    have hD : va_D A [(mo, .inr (12, [.ref nw, .ref kp, .ref ik, .ref mr, .long 0, .long 1, .ref mw, .long 0, .int 0, .int 0, .long 0, .long 0, .ref mq, .ref mz, .ref my, .int 0, .ref mb, .int 0, .int 0, .int 0, .int 0, .int 0, .ref mx, .ref mv])), (nw, .inl (cn, 350, .inl (upd (upd (upd (upd (upd (fun _ => 0) (Int32.toNatClampNeg 62) na) (Int32.toNatClampNeg 63) nb) (Int32.toNatClampNeg 64) nc) (Int32.toNatClampNeg 65) nd) (Int32.toNatClampNeg 3) 1))), (mr, .inl (cm, 3, .inl (fun _ => 0)))] := hD
                    refine lv_aload_n hx hb dX12_cause_138 rfl (lv_at hl 1 rfl) ?_
                    refine va_get (D := (dC, dI)) (ci := 12) (v := .ref nw) (C := RX12) (T := TX12) (N := 24) hx hb hts iw_k_m_cause_X12 hown hK hP 0 rfl rfl 0 (by decide) (hts (.fieldLink RX12 7 "ThriceCountedModel" "now" "[I") (by decide +kernel)) (fun _ h9 => h9) rfl dX12_cause_139 ?_
                    refine lv_iconst (v := 3) hx hb dX12_cause_142 (by decide) ?_
                    refine va_iald hx hb hK hP 1 0 rfl rfl (show ¬ ((3 : Int32) < 0 ∨ 350 ≤ (3 : Int32).toNatClampNeg) by decide) dX12_cause_143 ?_
                    refine tz_i 1 rfl ?_
                    refine lv_iconst (v := 1) hx hb dX12_cause_144 (by decide) ?_
                    refine lv_isub hx hb dX12_cause_145 ?_
                    refine tz_i 0 (by decide) ?_
                    exact W.iret (v := 0) hx hb hr (fun t ht hW => ⟨⟨0, (), rfl, ((if_pos hc_3).trans ((if_pos hc_7).trans ((if_pos hc_11).trans (if_pos hc_15)))).symm, trivial⟩, hS.F ht⟩) hS.2.2 dX12_cause_146
                  · exact absurd c_17 (by decide)
                · exact absurd c_16 (by decide)
              · obtain rfl : 0 = r_13 := (hw_14.trans (if_neg (fun z => hc_15 ((tz_in64 (by first | rfl | decide) rfl (by first | rfl | decide)).mp z)))).symm
                refine lv_if_ne (tgt := 58) hx hb dX12_cause_48 (by decide) (fun c_23 => ?_) (fun c_23 => ?_)
                · exact absurd c_23 (by decide)
                · refine lv_aload_n hx hb dX12_cause_51 rfl (lv_at hl 0 rfl) ?_
                  refine lv_bipush (v := (-2)) hx hb dX12_cause_52 (by decide) ?_
                  have hPc := hP.sub (ws' := [(mo, .inr (12, [.ref nw, .ref kp, .ref ik, .ref mr, .long 0, .long 1, .ref mw, .long 0, .int 0, .int 0, .long 0, .long 0, .ref mq, .ref mz, .ref my, .int 0, .ref mb, .int 0, .int 0, .int 0, .int 0, .int 0, .ref mx, .ref mv])), (mr, .inl (cm, 3, .inl (fun _ => 0)))]) [0, 2] rfl
                  have hDc := hD.sub (ws' := [(mo, .inr (12, [.ref nw, .ref kp, .ref ik, .ref mr, .long 0, .long 1, .ref mw, .long 0, .int 0, .int 0, .long 0, .long 0, .ref mq, .ref mz, .ref my, .int 0, .ref mb, .int 0, .int 0, .int 0, .int 0, .int 0, .ref mx, .ref mv])), (mr, .inl (cm, 3, .inl (fun _ => 0)))]) [0, 2] (by decide) rfl
                  have hKc := hK.sub (tys' := [(cm, .int)]) [1] rfl
                  have hFc := va_free (wc := [(mo, .inr (12, [.ref nw, .ref kp, .ref ik, .ref mr, .long 0, .long 1, .ref mw, .long 0, .int 0, .int 0, .long 0, .long 0, .ref mq, .ref mz, .ref my, .int 0, .ref mb, .int 0, .int 0, .int 0, .int 0, .int 0, .ref mx, .ref mv])), (mr, .inl (cm, 3, .inl (fun _ => 0)))]) hD hS hA [0, 2] rfl
                  refine va_calli (va_runV (As := [.int (-2)]) (rest := []) ⟨hx, hb, hml, hown, hts⟩ (k_bad l dC dI mo nw kp ik mr mw mq mz my mb mx mv cm (-2) s.heap.size) (cwV 1 hts gX12_cause_X12_bad rfl rfl rfl (by decide +kernel) ⟨Nat.le_of_ble_eq_true rfl, Nat.le_of_ble_eq_true rfl⟩) ⟨fun a U g mk q => by obtain ⟨q0, q1, qP, qK, qD⟩ := q; exact ⟨q0, q1, qP, va_K.moved (u := U) (U := U.calling g mk a) (Vm.Alike.refl U.vm) qK, qD⟩, va_recv hK hP (ci := 12) (q0 := 0) rfl rfl, fun U hU hW => ⟨rfl, by rw [hU], by rw [hU]; exact hPc, va_K.moved hW.alike hKc, hDc.weaken (fun _ _ _ _ => trivial)⟩⟩ rfl rfl hl.1 rfl (lv_room (Nat.le_of_ble_eq_true rfl)) dX12_cause_54 ⟨Nat.le_of_ble_eq_true rfl, Nat.le_of_ble_eq_true rfl⟩) hS (fun q _ h => hFc q h) hFc (fun r_24 u_ t H1 locs ht hvm hw_25 hB hz1 hk1 hS => ?_)
                  obtain ⟨hP, hD⟩ := va_join (wr := [(nw, .inl (cn, 350, .inl (fun _ => 0)))]) (w1 := []) hP hD [0, 2] [1] rfl rfl (by decide) (by decide) hk1 hFc tz_P0 tz_D0
                  generalize H1 = H at hP hS ⊢
                  have hP : va_P (dC, dI) vwCl [(nw, .inl (cn, 350, .inl (fun _ => 0)))] H := hP
                  have hD : va_D A [(nw, .inl (cn, 350, .inl (fun _ => 0)))] := hD
                  obtain rfl : (-2) = r_24 := hw_25.symm
                  exact W.iret (v := (-2)) hx hb hr (fun t ht hW => ⟨⟨(-2), (), rfl, ((if_pos hc_3).trans ((if_pos hc_7).trans ((if_pos hc_11).trans (if_neg hc_15)))).symm, trivial⟩, hS.F ht⟩) hS.2.2 dX12_cause_57
          · obtain rfl : 0 = r_9 := (hw_10.trans (if_neg (fun z => hc_11 ((tz_in64 (by first | rfl | decide) rfl (by first | rfl | decide)).mp z)))).symm
            refine lv_if_eq (tgt := 51) hx hb dX12_cause_35 (by decide) (fun c_26 => ?_) (fun c_26 => ?_)
            · refine lv_aload_n hx hb dX12_cause_51 rfl (lv_at hl 0 rfl) ?_
              refine lv_bipush (v := (-2)) hx hb dX12_cause_52 (by decide) ?_
              have hPc := hP.sub (ws' := [(mo, .inr (12, [.ref nw, .ref kp, .ref ik, .ref mr, .long 0, .long 1, .ref mw, .long 0, .int 0, .int 0, .long 0, .long 0, .ref mq, .ref mz, .ref my, .int 0, .ref mb, .int 0, .int 0, .int 0, .int 0, .int 0, .ref mx, .ref mv])), (mr, .inl (cm, 3, .inl (fun _ => 0)))]) [0, 2] rfl
              have hDc := hD.sub (ws' := [(mo, .inr (12, [.ref nw, .ref kp, .ref ik, .ref mr, .long 0, .long 1, .ref mw, .long 0, .int 0, .int 0, .long 0, .long 0, .ref mq, .ref mz, .ref my, .int 0, .ref mb, .int 0, .int 0, .int 0, .int 0, .int 0, .ref mx, .ref mv])), (mr, .inl (cm, 3, .inl (fun _ => 0)))]) [0, 2] (by decide) rfl
              have hKc := hK.sub (tys' := [(cm, .int)]) [1] rfl
              have hFc := va_free (wc := [(mo, .inr (12, [.ref nw, .ref kp, .ref ik, .ref mr, .long 0, .long 1, .ref mw, .long 0, .int 0, .int 0, .long 0, .long 0, .ref mq, .ref mz, .ref my, .int 0, .ref mb, .int 0, .int 0, .int 0, .int 0, .int 0, .ref mx, .ref mv])), (mr, .inl (cm, 3, .inl (fun _ => 0)))]) hD hS hA [0, 2] rfl
              refine va_calli (va_runV (As := [.int (-2)]) (rest := []) ⟨hx, hb, hml, hown, hts⟩ (k_bad l dC dI mo nw kp ik mr mw mq mz my mb mx mv cm (-2) s.heap.size) (cwV 1 hts gX12_cause_X12_bad rfl rfl rfl (by decide +kernel) ⟨Nat.le_of_ble_eq_true rfl, Nat.le_of_ble_eq_true rfl⟩) ⟨fun a U g mk q => by obtain ⟨q0, q1, qP, qK, qD⟩ := q; exact ⟨q0, q1, qP, va_K.moved (u := U) (U := U.calling g mk a) (Vm.Alike.refl U.vm) qK, qD⟩, va_recv hK hP (ci := 12) (q0 := 0) rfl rfl, fun U hU hW => ⟨rfl, by rw [hU], by rw [hU]; exact hPc, va_K.moved hW.alike hKc, hDc.weaken (fun _ _ _ _ => trivial)⟩⟩ rfl rfl hl.1 rfl (lv_room (Nat.le_of_ble_eq_true rfl)) dX12_cause_54 ⟨Nat.le_of_ble_eq_true rfl, Nat.le_of_ble_eq_true rfl⟩) hS (fun q _ h => hFc q h) hFc (fun r_27 u_ t H1 locs ht hvm hw_28 hB hz1 hk1 hS => ?_)
              obtain ⟨hP, hD⟩ := va_join (wr := [(nw, .inl (cn, 350, .inl (fun _ => 0)))]) (w1 := []) hP hD [0, 2] [1] rfl rfl (by decide) (by decide) hk1 hFc tz_P0 tz_D0
              generalize H1 = H at hP hS ⊢
              have hP : va_P (dC, dI) vwCl [(nw, .inl (cn, 350, .inl (fun _ => 0)))] H := hP
              have hD : va_D A [(nw, .inl (cn, 350, .inl (fun _ => 0)))] := hD
              obtain rfl : (-2) = r_27 := hw_28.symm
              exact W.iret (v := (-2)) hx hb hr (fun t ht hW => ⟨⟨(-2), (), rfl, ((if_pos hc_3).trans ((if_pos hc_7).trans (if_neg hc_11))).symm, trivial⟩, hS.F ht⟩) hS.2.2 dX12_cause_57
            · exact absurd c_26 (by decide)
      · obtain rfl : 0 = r_5 := (hw_6.trans (if_neg (fun z => hc_7 ((tz_in64 (by first | rfl | decide) rfl (by first | rfl | decide)).mp z)))).symm
        refine lv_if_eq (tgt := 51) hx hb dX12_cause_23 (by decide) (fun c_29 => ?_) (fun c_29 => ?_)
        · refine lv_aload_n hx hb dX12_cause_51 rfl (lv_at hl 0 rfl) ?_
          refine lv_bipush (v := (-2)) hx hb dX12_cause_52 (by decide) ?_
          have hPc := hP.sub (ws' := [(mo, .inr (12, [.ref nw, .ref kp, .ref ik, .ref mr, .long 0, .long 1, .ref mw, .long 0, .int 0, .int 0, .long 0, .long 0, .ref mq, .ref mz, .ref my, .int 0, .ref mb, .int 0, .int 0, .int 0, .int 0, .int 0, .ref mx, .ref mv])), (mr, .inl (cm, 3, .inl (fun _ => 0)))]) [0, 2] rfl
          have hDc := hD.sub (ws' := [(mo, .inr (12, [.ref nw, .ref kp, .ref ik, .ref mr, .long 0, .long 1, .ref mw, .long 0, .int 0, .int 0, .long 0, .long 0, .ref mq, .ref mz, .ref my, .int 0, .ref mb, .int 0, .int 0, .int 0, .int 0, .int 0, .ref mx, .ref mv])), (mr, .inl (cm, 3, .inl (fun _ => 0)))]) [0, 2] (by decide) rfl
          have hKc := hK.sub (tys' := [(cm, .int)]) [1] rfl
          have hFc := va_free (wc := [(mo, .inr (12, [.ref nw, .ref kp, .ref ik, .ref mr, .long 0, .long 1, .ref mw, .long 0, .int 0, .int 0, .long 0, .long 0, .ref mq, .ref mz, .ref my, .int 0, .ref mb, .int 0, .int 0, .int 0, .int 0, .int 0, .ref mx, .ref mv])), (mr, .inl (cm, 3, .inl (fun _ => 0)))]) hD hS hA [0, 2] rfl
          refine va_calli (va_runV (As := [.int (-2)]) (rest := []) ⟨hx, hb, hml, hown, hts⟩ (k_bad l dC dI mo nw kp ik mr mw mq mz my mb mx mv cm (-2) s.heap.size) (cwV 1 hts gX12_cause_X12_bad rfl rfl rfl (by decide +kernel) ⟨Nat.le_of_ble_eq_true rfl, Nat.le_of_ble_eq_true rfl⟩) ⟨fun a U g mk q => by obtain ⟨q0, q1, qP, qK, qD⟩ := q; exact ⟨q0, q1, qP, va_K.moved (u := U) (U := U.calling g mk a) (Vm.Alike.refl U.vm) qK, qD⟩, va_recv hK hP (ci := 12) (q0 := 0) rfl rfl, fun U hU hW => ⟨rfl, by rw [hU], by rw [hU]; exact hPc, va_K.moved hW.alike hKc, hDc.weaken (fun _ _ _ _ => trivial)⟩⟩ rfl rfl hl.1 rfl (lv_room (Nat.le_of_ble_eq_true rfl)) dX12_cause_54 ⟨Nat.le_of_ble_eq_true rfl, Nat.le_of_ble_eq_true rfl⟩) hS (fun q _ h => hFc q h) hFc (fun r_30 u_ t H1 locs ht hvm hw_31 hB hz1 hk1 hS => ?_)
          obtain ⟨hP, hD⟩ := va_join (wr := [(nw, .inl (cn, 350, .inl (fun _ => 0)))]) (w1 := []) hP hD [0, 2] [1] rfl rfl (by decide) (by decide) hk1 hFc tz_P0 tz_D0
          generalize H1 = H at hP hS ⊢
          have hP : va_P (dC, dI) vwCl [(nw, .inl (cn, 350, .inl (fun _ => 0)))] H := hP
          have hD : va_D A [(nw, .inl (cn, 350, .inl (fun _ => 0)))] := hD
          obtain rfl : (-2) = r_30 := hw_31.symm
          exact W.iret (v := (-2)) hx hb hr (fun t ht hW => ⟨⟨(-2), (), rfl, ((if_pos hc_3).trans (if_neg hc_7)).symm, trivial⟩, hS.F ht⟩) hS.2.2 dX12_cause_57
        · exact absurd c_29 (by decide)
  · obtain rfl : 0 = r_1 := (hw_2.trans (if_neg (fun z => hc_3 ((tz_in64 (by first | rfl | decide) rfl (by first | rfl | decide)).mp z)))).symm
    refine lv_if_eq (tgt := 51) hx hb dX12_cause_11 (by decide) (fun c_32 => ?_) (fun c_32 => ?_)
    · refine lv_aload_n hx hb dX12_cause_51 rfl (lv_at hl 0 rfl) ?_
      refine lv_bipush (v := (-2)) hx hb dX12_cause_52 (by decide) ?_
      have hPc := hP.sub (ws' := [(mo, .inr (12, [.ref nw, .ref kp, .ref ik, .ref mr, .long 0, .long 1, .ref mw, .long 0, .int 0, .int 0, .long 0, .long 0, .ref mq, .ref mz, .ref my, .int 0, .ref mb, .int 0, .int 0, .int 0, .int 0, .int 0, .ref mx, .ref mv])), (mr, .inl (cm, 3, .inl (fun _ => 0)))]) [0, 2] rfl
      have hDc := hD.sub (ws' := [(mo, .inr (12, [.ref nw, .ref kp, .ref ik, .ref mr, .long 0, .long 1, .ref mw, .long 0, .int 0, .int 0, .long 0, .long 0, .ref mq, .ref mz, .ref my, .int 0, .ref mb, .int 0, .int 0, .int 0, .int 0, .int 0, .ref mx, .ref mv])), (mr, .inl (cm, 3, .inl (fun _ => 0)))]) [0, 2] (by decide) rfl
      have hKc := hK.sub (tys' := [(cm, .int)]) [1] rfl
      have hFc := va_free (wc := [(mo, .inr (12, [.ref nw, .ref kp, .ref ik, .ref mr, .long 0, .long 1, .ref mw, .long 0, .int 0, .int 0, .long 0, .long 0, .ref mq, .ref mz, .ref my, .int 0, .ref mb, .int 0, .int 0, .int 0, .int 0, .int 0, .ref mx, .ref mv])), (mr, .inl (cm, 3, .inl (fun _ => 0)))]) hD hS hA [0, 2] rfl
      refine va_calli (va_runV (As := [.int (-2)]) (rest := []) ⟨hx, hb, hml, hown, hts⟩ (k_bad l dC dI mo nw kp ik mr mw mq mz my mb mx mv cm (-2) s.heap.size) (cwV 1 hts gX12_cause_X12_bad rfl rfl rfl (by decide +kernel) ⟨Nat.le_of_ble_eq_true rfl, Nat.le_of_ble_eq_true rfl⟩) ⟨fun a U g mk q => by obtain ⟨q0, q1, qP, qK, qD⟩ := q; exact ⟨q0, q1, qP, va_K.moved (u := U) (U := U.calling g mk a) (Vm.Alike.refl U.vm) qK, qD⟩, va_recv hK hP (ci := 12) (q0 := 0) rfl rfl, fun U hU hW => ⟨rfl, by rw [hU], by rw [hU]; exact hPc, va_K.moved hW.alike hKc, hDc.weaken (fun _ _ _ _ => trivial)⟩⟩ rfl rfl hl.1 rfl (lv_room (Nat.le_of_ble_eq_true rfl)) dX12_cause_54 ⟨Nat.le_of_ble_eq_true rfl, Nat.le_of_ble_eq_true rfl⟩) hS (fun q _ h => hFc q h) hFc (fun r_33 u_ t H1 locs ht hvm hw_34 hB hz1 hk1 hS => ?_)
      obtain ⟨hP, hD⟩ := va_join (wr := [(nw, .inl (cn, 350, .inl (fun _ => 0)))]) (w1 := []) hP hD [0, 2] [1] rfl rfl (by decide) (by decide) hk1 hFc tz_P0 tz_D0
      generalize H1 = H at hP hS ⊢
      have hP : va_P (dC, dI) vwCl [(nw, .inl (cn, 350, .inl (fun _ => 0)))] H := hP
      have hD : va_D A [(nw, .inl (cn, 350, .inl (fun _ => 0)))] := hD
      obtain rfl : (-2) = r_33 := hw_34.symm
      exact W.iret (v := (-2)) hx hb hr (fun t ht hW => ⟨⟨(-2), (), rfl, (if_neg hc_3).symm, trivial⟩, hS.F ht⟩) hS.2.2 dX12_cause_57
    · exact absurd c_32 (by decide)
set_option maxRecDepth 20000 in
theorem ggX12_why_X12_isOff : GoodIn wsX12_why wsX12_isOff := goodIn_r _ [5, 6, 7, 8, 9, 4, 10] (by decide +kernel) (by decide +kernel)
set_option maxRecDepth 20000 in
theorem gX12_why_X12_isOff : GoodIn wsX12_why (va_wsS RX12 212 yX12_isOff wsX12_isOff) := goodIn_app (goodIn_of _ (by decide +kernel)) ggX12_why_X12_isOff
set_option maxRecDepth 20000 in
theorem ggX12_why_X12_in : GoodIn wsX12_why wsX12_in := goodIn_r _ [10] (by decide +kernel) (by decide +kernel)
set_option maxRecDepth 20000 in
theorem gX12_why_X12_in : GoodIn wsX12_why (va_wsS RX12 49 yX12_in wsX12_in) := goodIn_app (goodIn_of _ (by decide +kernel)) ggX12_why_X12_in
set_option maxRecDepth 20000 in
theorem ggX12_why_X12_bad : GoodIn wsX12_why wsX12_bad := goodIn_r _ [14, 15, 20, 21, 22, 23, 24, 25, 26, 27, 28, 29, 30, 31, 32, 33, 34, 35, 36, 37, 38, 39, 40, 41, 42, 43] (by decide +kernel) (by decide +kernel)
set_option maxRecDepth 20000 in
theorem gX12_why_X12_bad : GoodIn wsX12_why (wsV RX12 61 RX12 yX12_bad wsX12_bad) := goodIn_app (goodIn_of _ (by decide +kernel)) ggX12_why_X12_bad
theorem dX12_why_0 : decode cX12_why 0 = .ok (.iload_n 1, 1) := by decide +kernel
theorem dX12_why_1 : decode cX12_why 1 = .ok (.invokestatic 212, 3) := by decide +kernel
theorem dX12_why_4 : decode cX12_why 4 = .ok (.ifCond .eq 13, 3) := by decide +kernel
theorem dX12_why_7 : decode cX12_why 7 = .ok (.iload_n 2, 1) := by decide +kernel
theorem dX12_why_8 : decode cX12_why 8 = .ok (.i2l, 1) := by decide +kernel
theorem dX12_why_9 : decode cX12_why 9 = .ok (.lconst 0, 1) := by decide +kernel
theorem dX12_why_10 : decode cX12_why 10 = .ok (.lconst 1, 1) := by decide +kernel
theorem dX12_why_11 : decode cX12_why 11 = .ok (.invokestatic 49, 3) := by decide +kernel
theorem dX12_why_14 : decode cX12_why 14 = .ok (.ifCond .ne 10, 3) := by decide +kernel
theorem dX12_why_24 : decode cX12_why 24 = .ok (.iconst 0, 1) := by decide +kernel
theorem dX12_why_25 : decode cX12_why 25 = .ok (.istore_n 3, 1) := by decide +kernel
theorem dX12_why_26 : decode cX12_why 26 = .ok (.iconst (-1), 1) := by decide +kernel
theorem dX12_why_27 : decode cX12_why 27 = .ok (.istore 4, 2) := by decide +kernel
theorem dX12_why_29 : decode cX12_why 29 = .ok (.iconst (-1), 1) := by decide +kernel
theorem dX12_why_30 : decode cX12_why 30 = .ok (.istore 5, 2) := by decide +kernel
theorem dX12_why_32 : decode cX12_why 32 = .ok (.iconst 0, 1) := by decide +kernel
theorem dX12_why_33 : decode cX12_why 33 = .ok (.istore 6, 2) := by decide +kernel
theorem dX12_why_35 : decode cX12_why 35 = .ok (.iload 6, 2) := by decide +kernel
theorem dX12_why_37 : decode cX12_why 37 = .ok (.aload_n 0, 1) := by decide +kernel
theorem dX12_why_38 : decode cX12_why 38 = .ok (.getfield 7, 3) := by decide +kernel
theorem dX12_why_41 : decode cX12_why 41 = .ok (.iconst 3, 1) := by decide +kernel
theorem dX12_why_42 : decode cX12_why 42 = .ok (.iaload, 1) := by decide +kernel
theorem dX12_why_43 : decode cX12_why 43 = .ok (.if_icmp .ge 148, 3) := by decide +kernel
theorem dX12_why_191 : decode cX12_why 191 = .ok (.iload_n 2, 1) := by decide +kernel
theorem dX12_why_192 : decode cX12_why 192 = .ok (.ifCond .ne 7, 3) := by decide +kernel
theorem dX12_why_199 : decode cX12_why 199 = .ok (.iload 4, 2) := by decide +kernel
theorem dX12_why_201 : decode cX12_why 201 = .ok (.ireturn, 1) := by decide +kernel
theorem dX12_why_195 : decode cX12_why 195 = .ok (.iload_n 3, 1) := by decide +kernel
theorem dX12_why_196 : decode cX12_why 196 = .ok (.goto 5, 3) := by decide +kernel
theorem dX12_why_17 : decode cX12_why 17 = .ok (.aload_n 0, 1) := by decide +kernel
theorem dX12_why_18 : decode cX12_why 18 = .ok (.bipush (-2), 2) := by decide +kernel
theorem dX12_why_20 : decode cX12_why 20 = .ok (.invokevirtual 61, 3) := by decide +kernel
theorem dX12_why_23 : decode cX12_why 23 = .ok (.ireturn, 1) := by decide +kernel
set_option maxRecDepth 20000 in
theorem iw_k_m_why_X12 : ∀ w ∈ wsX120, w ∈ wsX12_why := by decide +kernel
set_option maxHeartbeats 4000000 in
set_option maxRecDepth 100000 in
theorem k_m_why (l : Launch) (dC : Nat → ClassId) (dI : Nat → Nat → Nat) (mo : Nat) (nw : Nat) (kp : Nat) (ik : Nat) (mr : Nat) (mw : Nat) (mq : Nat) (mz : Nat) (my : Nat) (mb : Nat) (mx : Nat) (mv : Nat) (cn : ClassId) (cm : ClassId) (na : Int32) (nb : Int32) (sz : Nat) : Met l yX12_why wsX12_why ({ frames := 2, cells := 0, slots := 0, locals := 45 }) (va_Pc [.ref mo, .int na, .int nb] (fun U => U.heap.size = sz ∧ va_P (dC, dI) vwCl [(mo, .inr (12, [.ref nw, .ref kp, .ref ik, .ref mr, .long 0, .long 1, .ref mw, .long 0, .int 0, .int 0, .long 0, .long 0, .ref mq, .ref mz, .ref my, .int 0, .ref mb, .int 0, .int 0, .int 0, .int 0, .int 0, .ref mx, .ref mv])), (nw, .inl (cn, 350, .inl (fun _ => 0))), (mr, .inl (cm, 3, .inl (fun _ => 0)))] U.heap ∧ va_K (dC, dI) vwCl [(cn, .int), (cm, .int)] U ∧ va_D (fun _ => True) [(mo, .inr (12, [.ref nw, .ref kp, .ref ik, .ref mr, .long 0, .long 1, .ref mw, .long 0, .int 0, .int 0, .long 0, .long 0, .ref mq, .ref mz, .ref my, .int 0, .ref mb, .int 0, .int 0, .int 0, .int 0, .int 0, .ref mx, .ref mv])), (nw, .inl (cn, 350, .inl (fun _ => 0))), (mr, .inl (cm, 3, .inl (fun _ => 0)))])) (va_Qi (fun (r : Int32) (_ : Unit) => r = (if (-198) ≤ na ∧ na ≤ 198 then (if 0 ≤ nb ∧ nb ≤ 1 then (if nb = 0 then 0 else (-1)) else (-2)) else (-2))) (fun _ _ => True) (va_A [(mo, .inr (12, [.ref nw, .ref kp, .ref ik, .ref mr, .long 0, .long 1, .ref mw, .long 0, .int 0, .int 0, .long 0, .long 0, .ref mq, .ref mz, .ref my, .int 0, .ref mb, .int 0, .int 0, .int 0, .int 0, .int 0, .ref mx, .ref mv])), (nw, .inl (cn, 350, .inl (fun _ => 0))), (mr, .inl (cm, 3, .inl (fun _ => 0)))] sz)) 0 0 (va_A [(mo, .inr (12, [.ref nw, .ref kp, .ref ik, .ref mr, .long 0, .long 1, .ref mw, .long 0, .int 0, .int 0, .long 0, .long 0, .ref mq, .ref mz, .ref my, .int 0, .ref mb, .int 0, .int 0, .int 0, .int 0, .int 0, .ref mx, .ref mv])), (nw, .inl (cn, 350, .inl (fun _ => 0))), (mr, .inl (cm, 3, .inl (fun _ => 0)))] sz) := by
  refine Met.ofW (cc := cX12_why) (maxL := 10) (ret := (some .int)) (by decide) rfl ?_
  intro p e s m args below meth c s₁ B hml hv
  obtain ⟨rfl, hsz, hP, hK, hD0⟩ := hv
  have hx := B.exec
  have hb := B.bytes
  have hr := B.returns
  have hts := atoms_spec (ws := wsX12_why) B.pre
  have hown : s.vm.findClass RX12 = some m.cls := findClass_of_methodNamed B.named
  have hlocks := B.notSynchronized
  subst hsz
  have hD := hD0.self (sz := s.heap.size)
  generalize hAe : va_A [(mo, .inr (12, [.ref nw, .ref kp, .ref ik, .ref mr, .long 0, .long 1, .ref mw, .long 0, .int 0, .int 0, .long 0, .long 0, .ref mq, .ref mz, .ref my, .int 0, .ref mb, .int 0, .int 0, .int 0, .int 0, .int 0, .ref mx, .ref mv])), (nw, .inl (cn, 350, .inl (fun _ => 0))), (mr, .inl (cm, 3, .inl (fun _ => 0)))] s.heap.size = A at hD ⊢
  have hA : ∀ q : Nat, s.heap.size ≤ q → A q := fun q h => by rw [← hAe]; exact Or.inr h
  have hS : va_S A s.heap s.heap [] := va_S.rf
  have hP : va_P (dC, dI) vwCl [(mo, .inr (12, [.ref nw, .ref kp, .ref ik, .ref mr, .long 0, .long 1, .ref mw, .long 0, .int 0, .int 0, .long 0, .long 0, .ref mq, .ref mz, .ref my, .int 0, .ref mb, .int 0, .int 0, .int 0, .int 0, .int 0, .ref mx, .ref mv])), (nw, .inl (cn, 350, .inl (fun _ => 0))), (mr, .inl (cm, 3, .inl (fun _ => 0)))] s.heap := hP
  have hl := lv_entry ([.ref mo, .int na, .int nb]) (n := 10) (Nat.le_of_ble_eq_true rfl)
  rw [lg_entry_eq]
  generalize (lg_sl ([.ref mo, .int na, .int nb]) ++ List.replicate (10 - (lg_sl ([.ref mo, .int na, .int nb])).length) Slot.unset).toArray = ls at hl ⊢
  have hl : lv_has ls 10 [(0, .ref mo), (1, .int na), (2, .int nb)] := hl
  refine lv_iload_n hx hb dX12_why_0 rfl (lv_at hl 1 rfl) ?_
  refine vp_callSi (va_Run.run (va_runS (As := [.int na]) (rest := []) ⟨hx, hb, hml, hown, hts⟩ (k_m_isOff l dC dI na) (va_cwS 1 hts gX12_why_X12_isOff rfl rfl rfl (by decide +kernel) ⟨Nat.le_of_ble_eq_true rfl, Nat.le_of_ble_eq_true rfl⟩) ⟨fun a U g mk q => ⟨q.1, trivial⟩, fun U hU hW => ⟨rfl, trivial⟩⟩ rfl rfl hl.1 rfl (lv_room (Nat.le_of_ble_eq_true rfl)) dX12_why_1 ⟨Nat.le_of_ble_eq_true rfl, Nat.le_of_ble_eq_true rfl⟩)) (fun r_1 hw_2 => ?_)
  by_cases hc_3 : (-198) ≤ na ∧ na ≤ 198
  · obtain rfl : 1 = r_1 := (hw_2.trans (if_pos hc_3)).symm
    refine lv_if_eq (tgt := 17) hx hb dX12_why_4 (by decide) (fun c_4 => ?_) (fun c_4 => ?_)
    · exact absurd c_4 (by decide)
    · refine lv_iload_n hx hb dX12_why_7 rfl (lv_at hl 2 rfl) ?_
      refine lv_i2l (v := nb.toInt64) hx hb dX12_why_8 rfl ?_
      refine lv_lconst (v := 0) hx hb dX12_why_9 (by decide) ?_
      refine lv_lconst (v := 1) hx hb dX12_why_10 (by decide) ?_
      refine vp_callSi (va_Run.run (va_runS (As := [.long nb.toInt64, .long 0, .long 1]) (rest := []) ⟨hx, hb, hml, hown, hts⟩ (k_in l dC dI nb.toInt64 0 1) (va_cwS 3 hts gX12_why_X12_in rfl rfl rfl (by decide +kernel) ⟨Nat.le_of_ble_eq_true rfl, Nat.le_of_ble_eq_true rfl⟩) ⟨fun a U g mk q => ⟨q.1, trivial⟩, fun U hU hW => ⟨rfl, trivial⟩⟩ rfl rfl hl.1 rfl (lv_room (Nat.le_of_ble_eq_true rfl)) dX12_why_11 ⟨Nat.le_of_ble_eq_true rfl, Nat.le_of_ble_eq_true rfl⟩)) (fun r_5 hw_6 => ?_)
      by_cases hc_7 : 0 ≤ nb ∧ nb ≤ 1
      · obtain rfl : 1 = r_5 := (hw_6.trans (if_pos ((tz_in64 (by first | rfl | decide) rfl (by first | rfl | decide)).mpr hc_7))).symm
        refine lv_if_ne (tgt := 24) hx hb dX12_why_14 (by decide) (fun c_8 => ?_) (fun c_8 => ?_)
        · refine lv_iconst (v := 0) hx hb dX12_why_24 (by decide) ?_
          refine lv_istore_n (lv' := [(3, .int 0), (0, .ref mo), (1, .int na), (2, .int nb)]) hx hb dX12_why_25 rfl hl (by decide) rfl (fun ls hl => ?_)
          refine lv_iconst (v := (-1)) hx hb dX12_why_26 (by decide) ?_
          refine lv_istore (lv' := [(4, .int (-1)), (3, .int 0), (0, .ref mo), (1, .int na), (2, .int nb)]) hx hb dX12_why_27 hl (by decide) rfl (fun ls hl => ?_)
          refine lv_iconst (v := (-1)) hx hb dX12_why_29 (by decide) ?_
          refine lv_istore (lv' := [(5, .int (-1)), (4, .int (-1)), (3, .int 0), (0, .ref mo), (1, .int na), (2, .int nb)]) hx hb dX12_why_30 hl (by decide) rfl (fun ls hl => ?_)
          refine lv_iconst (v := 0) hx hb dX12_why_32 (by decide) ?_
          refine lv_istore (lv' := [(6, .int 0), (5, .int (-1)), (4, .int (-1)), (3, .int 0), (0, .ref mo), (1, .int na), (2, .int nb)]) hx hb dX12_why_33 hl (by decide) rfl (fun ls hl => ?_)
          refine lv_iload hx hb dX12_why_35 (lv_at hl 0 rfl) ?_
          refine lv_aload_n hx hb dX12_why_37 rfl (lv_at hl 4 rfl) ?_
          refine va_get (D := (dC, dI)) (ci := 12) (v := .ref nw) (C := RX12) (T := TX12) (N := 24) hx hb hts iw_k_m_why_X12 hown hK hP 0 rfl rfl 0 (by decide) (hts (.fieldLink RX12 7 "ThriceCountedModel" "now" "[I") (by decide +kernel)) (fun _ h9 => h9) rfl dX12_why_38 ?_
          refine lv_iconst (v := 3) hx hb dX12_why_41 (by decide) ?_
          refine va_iald hx hb hK hP 1 0 rfl rfl (show ¬ ((3 : Int32) < 0 ∨ 350 ≤ (3 : Int32).toNatClampNeg) by decide) dX12_why_42 ?_
          refine tz_i 0 rfl ?_
          refine lv_icmp_ge (tgt := 191) hx hb dX12_why_43 (by decide) (fun c_9 => ?_) (fun c_9 => ?_)
          · refine lv_iload_n hx hb dX12_why_191 rfl (lv_at hl 6 rfl) ?_
            refine lv_if_ne (tgt := 199) hx hb dX12_why_192 (by decide) (fun c_10 => ?_) (fun c_10 => ?_)
            · refine lv_iload hx hb dX12_why_199 (lv_at hl 2 rfl) ?_
              exact W.iret (v := (-1)) hx hb hr (fun t ht hW => ⟨⟨(-1), (), rfl, ((if_pos hc_3).trans ((if_pos hc_7).trans (if_neg c_10))).symm, trivial⟩, hS.F ht⟩) hS.2.2 dX12_why_201
            · refine lv_iload_n hx hb dX12_why_195 rfl (lv_at hl 3 rfl) ?_
              refine lv_goto (tgt := 201) hx hb dX12_why_196 (by decide) ?_
              exact W.iret (v := 0) hx hb hr (fun t ht hW => ⟨⟨0, (), rfl, ((if_pos hc_3).trans ((if_pos hc_7).trans (if_pos c_10))).symm, trivial⟩, hS.F ht⟩) hS.2.2 dX12_why_201
          · exact absurd c_9 (by decide)
        · exact absurd c_8 (by decide)
      · obtain rfl : 0 = r_5 := (hw_6.trans (if_neg (fun z => hc_7 ((tz_in64 (by first | rfl | decide) rfl (by first | rfl | decide)).mp z)))).symm
        refine lv_if_ne (tgt := 24) hx hb dX12_why_14 (by decide) (fun c_11 => ?_) (fun c_11 => ?_)
        · exact absurd c_11 (by decide)
        · refine lv_aload_n hx hb dX12_why_17 rfl (lv_at hl 0 rfl) ?_
          refine lv_bipush (v := (-2)) hx hb dX12_why_18 (by decide) ?_
          have hPc := hP.sub (ws' := [(mo, .inr (12, [.ref nw, .ref kp, .ref ik, .ref mr, .long 0, .long 1, .ref mw, .long 0, .int 0, .int 0, .long 0, .long 0, .ref mq, .ref mz, .ref my, .int 0, .ref mb, .int 0, .int 0, .int 0, .int 0, .int 0, .ref mx, .ref mv])), (mr, .inl (cm, 3, .inl (fun _ => 0)))]) [0, 2] rfl
          have hDc := hD.sub (ws' := [(mo, .inr (12, [.ref nw, .ref kp, .ref ik, .ref mr, .long 0, .long 1, .ref mw, .long 0, .int 0, .int 0, .long 0, .long 0, .ref mq, .ref mz, .ref my, .int 0, .ref mb, .int 0, .int 0, .int 0, .int 0, .int 0, .ref mx, .ref mv])), (mr, .inl (cm, 3, .inl (fun _ => 0)))]) [0, 2] (by decide) rfl
          have hKc := hK.sub (tys' := [(cm, .int)]) [1] rfl
          have hFc := va_free (wc := [(mo, .inr (12, [.ref nw, .ref kp, .ref ik, .ref mr, .long 0, .long 1, .ref mw, .long 0, .int 0, .int 0, .long 0, .long 0, .ref mq, .ref mz, .ref my, .int 0, .ref mb, .int 0, .int 0, .int 0, .int 0, .int 0, .ref mx, .ref mv])), (mr, .inl (cm, 3, .inl (fun _ => 0)))]) hD hS hA [0, 2] rfl
          refine va_calli (va_runV (As := [.int (-2)]) (rest := []) ⟨hx, hb, hml, hown, hts⟩ (k_bad l dC dI mo nw kp ik mr mw mq mz my mb mx mv cm (-2) s.heap.size) (cwV 1 hts gX12_why_X12_bad rfl rfl rfl (by decide +kernel) ⟨Nat.le_of_ble_eq_true rfl, Nat.le_of_ble_eq_true rfl⟩) ⟨fun a U g mk q => by obtain ⟨q0, q1, qP, qK, qD⟩ := q; exact ⟨q0, q1, qP, va_K.moved (u := U) (U := U.calling g mk a) (Vm.Alike.refl U.vm) qK, qD⟩, va_recv hK hP (ci := 12) (q0 := 0) rfl rfl, fun U hU hW => ⟨rfl, by rw [hU], by rw [hU]; exact hPc, va_K.moved hW.alike hKc, hDc.weaken (fun _ _ _ _ => trivial)⟩⟩ rfl rfl hl.1 rfl (lv_room (Nat.le_of_ble_eq_true rfl)) dX12_why_20 ⟨Nat.le_of_ble_eq_true rfl, Nat.le_of_ble_eq_true rfl⟩) hS (fun q _ h => hFc q h) hFc (fun r_12 u_ t H1 locs ht hvm hw_13 hB hz1 hk1 hS => ?_)
          obtain ⟨hP, hD⟩ := va_join (wr := [(nw, .inl (cn, 350, .inl (fun _ => 0)))]) (w1 := []) hP hD [0, 2] [1] rfl rfl (by decide) (by decide) hk1 hFc tz_P0 tz_D0
          generalize H1 = H at hP hS ⊢
          have hP : va_P (dC, dI) vwCl [(nw, .inl (cn, 350, .inl (fun _ => 0)))] H := hP
          have hD : va_D A [(nw, .inl (cn, 350, .inl (fun _ => 0)))] := hD
          obtain rfl : (-2) = r_12 := hw_13.symm
          exact W.iret (v := (-2)) hx hb hr (fun t ht hW => ⟨⟨(-2), (), rfl, ((if_pos hc_3).trans (if_neg hc_7)).symm, trivial⟩, hS.F ht⟩) hS.2.2 dX12_why_23
  · obtain rfl : 0 = r_1 := (hw_2.trans (if_neg hc_3)).symm
    refine lv_if_eq (tgt := 17) hx hb dX12_why_4 (by decide) (fun c_14 => ?_) (fun c_14 => ?_)
    · refine lv_aload_n hx hb dX12_why_17 rfl (lv_at hl 0 rfl) ?_
      refine lv_bipush (v := (-2)) hx hb dX12_why_18 (by decide) ?_
      have hPc := hP.sub (ws' := [(mo, .inr (12, [.ref nw, .ref kp, .ref ik, .ref mr, .long 0, .long 1, .ref mw, .long 0, .int 0, .int 0, .long 0, .long 0, .ref mq, .ref mz, .ref my, .int 0, .ref mb, .int 0, .int 0, .int 0, .int 0, .int 0, .ref mx, .ref mv])), (mr, .inl (cm, 3, .inl (fun _ => 0)))]) [0, 2] rfl
      have hDc := hD.sub (ws' := [(mo, .inr (12, [.ref nw, .ref kp, .ref ik, .ref mr, .long 0, .long 1, .ref mw, .long 0, .int 0, .int 0, .long 0, .long 0, .ref mq, .ref mz, .ref my, .int 0, .ref mb, .int 0, .int 0, .int 0, .int 0, .int 0, .ref mx, .ref mv])), (mr, .inl (cm, 3, .inl (fun _ => 0)))]) [0, 2] (by decide) rfl
      have hKc := hK.sub (tys' := [(cm, .int)]) [1] rfl
      have hFc := va_free (wc := [(mo, .inr (12, [.ref nw, .ref kp, .ref ik, .ref mr, .long 0, .long 1, .ref mw, .long 0, .int 0, .int 0, .long 0, .long 0, .ref mq, .ref mz, .ref my, .int 0, .ref mb, .int 0, .int 0, .int 0, .int 0, .int 0, .ref mx, .ref mv])), (mr, .inl (cm, 3, .inl (fun _ => 0)))]) hD hS hA [0, 2] rfl
      refine va_calli (va_runV (As := [.int (-2)]) (rest := []) ⟨hx, hb, hml, hown, hts⟩ (k_bad l dC dI mo nw kp ik mr mw mq mz my mb mx mv cm (-2) s.heap.size) (cwV 1 hts gX12_why_X12_bad rfl rfl rfl (by decide +kernel) ⟨Nat.le_of_ble_eq_true rfl, Nat.le_of_ble_eq_true rfl⟩) ⟨fun a U g mk q => by obtain ⟨q0, q1, qP, qK, qD⟩ := q; exact ⟨q0, q1, qP, va_K.moved (u := U) (U := U.calling g mk a) (Vm.Alike.refl U.vm) qK, qD⟩, va_recv hK hP (ci := 12) (q0 := 0) rfl rfl, fun U hU hW => ⟨rfl, by rw [hU], by rw [hU]; exact hPc, va_K.moved hW.alike hKc, hDc.weaken (fun _ _ _ _ => trivial)⟩⟩ rfl rfl hl.1 rfl (lv_room (Nat.le_of_ble_eq_true rfl)) dX12_why_20 ⟨Nat.le_of_ble_eq_true rfl, Nat.le_of_ble_eq_true rfl⟩) hS (fun q _ h => hFc q h) hFc (fun r_15 u_ t H1 locs ht hvm hw_16 hB hz1 hk1 hS => ?_)
      obtain ⟨hP, hD⟩ := va_join (wr := [(nw, .inl (cn, 350, .inl (fun _ => 0)))]) (w1 := []) hP hD [0, 2] [1] rfl rfl (by decide) (by decide) hk1 hFc tz_P0 tz_D0
      generalize H1 = H at hP hS ⊢
      have hP : va_P (dC, dI) vwCl [(nw, .inl (cn, 350, .inl (fun _ => 0)))] H := hP
      have hD : va_D A [(nw, .inl (cn, 350, .inl (fun _ => 0)))] := hD
      obtain rfl : (-2) = r_15 := hw_16.symm
      exact W.iret (v := (-2)) hx hb hr (fun t ht hW => ⟨⟨(-2), (), rfl, (if_neg hc_3).symm, trivial⟩, hS.F ht⟩) hS.2.2 dX12_why_23
    · exact absurd c_14 (by decide)
set_option maxRecDepth 20000 in
theorem ggX12_look_X12_isOff : GoodIn wsX12_look wsX12_isOff := goodIn_r _ [9, 10, 11, 12, 13, 8, 14] (by decide +kernel) (by decide +kernel)
set_option maxRecDepth 20000 in
theorem gX12_look_X12_isOff : GoodIn wsX12_look (va_wsS RX12 212 yX12_isOff wsX12_isOff) := goodIn_app (goodIn_of _ (by decide +kernel)) ggX12_look_X12_isOff
set_option maxRecDepth 20000 in
theorem ggX12_look_X12_laySought : GoodIn wsX12_look wsX12_laySought := goodIn_r _ [23, 1, 24, 25, 4, 26, 27, 28, 8, 29, 48, 49, 50, 51, 52, 53, 54, 55, 56, 57, 58, 59, 60, 61, 62, 63, 64, 65, 66, 67, 68, 69, 70, 71] (by decide +kernel) (by decide +kernel)
set_option maxRecDepth 20000 in
theorem gX12_look_X12_laySought : GoodIn wsX12_look (wsV RX12 221 RX12 yX12_laySought wsX12_laySought) := goodIn_app (goodIn_of _ (by decide +kernel)) ggX12_look_X12_laySought
set_option maxRecDepth 20000 in
theorem ggX12_look_X12_bad : GoodIn wsX12_look wsX12_bad := goodIn_r _ [18, 19, 48, 49, 50, 51, 52, 53, 54, 55, 56, 57, 58, 59, 60, 61, 62, 63, 64, 65, 66, 67, 68, 69, 70, 71] (by decide +kernel) (by decide +kernel)
set_option maxRecDepth 20000 in
theorem gX12_look_X12_bad : GoodIn wsX12_look (wsV RX12 61 RX12 yX12_bad wsX12_bad) := goodIn_app (goodIn_of _ (by decide +kernel)) ggX12_look_X12_bad
theorem dX12_look_0 : decode cX12_look 0 = .ok (.iload_n 1, 1) := by decide +kernel
theorem dX12_look_1 : decode cX12_look 1 = .ok (.invokestatic 212, 3) := by decide +kernel
theorem dX12_look_4 : decode cX12_look 4 = .ok (.ifCond .eq 7, 3) := by decide +kernel
theorem dX12_look_7 : decode cX12_look 7 = .ok (.iload_n 2, 1) := by decide +kernel
theorem dX12_look_8 : decode cX12_look 8 = .ok (.ifCond .ge 10, 3) := by decide +kernel
theorem dX12_look_18 : decode cX12_look 18 = .ok (.aload_n 0, 1) := by decide +kernel
theorem dX12_look_19 : decode cX12_look 19 = .ok (.iload_n 1, 1) := by decide +kernel
theorem dX12_look_20 : decode cX12_look 20 = .ok (.invokevirtual 221, 3) := by decide +kernel
theorem dX12_look_23 : decode cX12_look 23 = .ok (.iload_n 2, 1) := by decide +kernel
theorem dX12_look_24 : decode cX12_look 24 = .ok (.aload_n 0, 1) := by decide +kernel
theorem dX12_look_25 : decode cX12_look 25 = .ok (.getfield 218, 3) := by decide +kernel
theorem dX12_look_28 : decode cX12_look 28 = .ok (.if_icmp .lt 6, 3) := by decide +kernel
theorem dX12_look_31 : decode cX12_look 31 = .ok (.bipush (-5), 2) := by decide +kernel
theorem dX12_look_33 : decode cX12_look 33 = .ok (.ireturn, 1) := by decide +kernel
theorem dX12_look_11 : decode cX12_look 11 = .ok (.aload_n 0, 1) := by decide +kernel
theorem dX12_look_12 : decode cX12_look 12 = .ok (.bipush (-10), 2) := by decide +kernel
theorem dX12_look_14 : decode cX12_look 14 = .ok (.invokevirtual 61, 3) := by decide +kernel
theorem dX12_look_17 : decode cX12_look 17 = .ok (.ireturn, 1) := by decide +kernel
set_option maxRecDepth 20000 in
theorem iw_k_m_look_X12 : ∀ w ∈ wsX120, w ∈ wsX12_look := by decide +kernel
set_option maxHeartbeats 4000000 in
set_option maxRecDepth 100000 in
theorem k_m_look (l : Launch) (dC : Nat → ClassId) (dI : Nat → Nat → Nat) (mo : Nat) (nw : Nat) (kp : Nat) (ik : Nat) (mr : Nat) (mw : Nat) (mq : Nat) (mz : Nat) (my : Nat) (mb : Nat) (mx : Nat) (mv : Nat) (cn : ClassId) (cm : ClassId) (na : Int32) (nb : Int32) (sz : Nat) : Met l yX12_look wsX12_look ({ frames := 2, cells := 0, slots := 0, locals := 45 }) (va_Pc [.ref mo, .int na, .int nb] (fun U => U.heap.size = sz ∧ va_P (dC, dI) vwCl [(mo, .inr (12, [.ref nw, .ref kp, .ref ik, .ref mr, .long 0, .long 1, .ref mw, .long 0, .int 0, .int 0, .long 0, .long 0, .ref mq, .ref mz, .ref my, .int 0, .ref mb, .int 0, .int 0, .int 0, .int 0, .int 0, .ref mx, .ref mv])), (nw, .inl (cn, 350, .inl (fun _ => 0))), (mr, .inl (cm, 3, .inl (fun _ => 0)))] U.heap ∧ va_K (dC, dI) vwCl [(cn, .int), (cm, .int)] U ∧ va_D (fun _ => True) [(mo, .inr (12, [.ref nw, .ref kp, .ref ik, .ref mr, .long 0, .long 1, .ref mw, .long 0, .int 0, .int 0, .long 0, .long 0, .ref mq, .ref mz, .ref my, .int 0, .ref mb, .int 0, .int 0, .int 0, .int 0, .int 0, .ref mx, .ref mv])), (nw, .inl (cn, 350, .inl (fun _ => 0))), (mr, .inl (cm, 3, .inl (fun _ => 0)))])) (va_Qi (fun (r : Int32) (_ : Unit) => r = (if (-198) ≤ na ∧ na ≤ 198 then (if 0 ≤ nb then (-5) else (-10)) else (-10))) (fun _ _ => True) (va_A [(mo, .inr (12, [.ref nw, .ref kp, .ref ik, .ref mr, .long 0, .long 1, .ref mw, .long 0, .int 0, .int 0, .long 0, .long 0, .ref mq, .ref mz, .ref my, .int 0, .ref mb, .int 0, .int 0, .int 0, .int 0, .int 0, .ref mx, .ref mv])), (nw, .inl (cn, 350, .inl (fun _ => 0))), (mr, .inl (cm, 3, .inl (fun _ => 0)))] sz)) 0 0 (va_A [(mo, .inr (12, [.ref nw, .ref kp, .ref ik, .ref mr, .long 0, .long 1, .ref mw, .long 0, .int 0, .int 0, .long 0, .long 0, .ref mq, .ref mz, .ref my, .int 0, .ref mb, .int 0, .int 0, .int 0, .int 0, .int 0, .ref mx, .ref mv])), (nw, .inl (cn, 350, .inl (fun _ => 0))), (mr, .inl (cm, 3, .inl (fun _ => 0)))] sz) := by
  refine Met.ofW (cc := cX12_look) (maxL := 9) (ret := (some .int)) (by decide) rfl ?_
  intro p e s m args below meth c s₁ B hml hv
  obtain ⟨rfl, hsz, hP, hK, hD0⟩ := hv
  have hx := B.exec
  have hb := B.bytes
  have hr := B.returns
  have hts := atoms_spec (ws := wsX12_look) B.pre
  have hown : s.vm.findClass RX12 = some m.cls := findClass_of_methodNamed B.named
  have hlocks := B.notSynchronized
  subst hsz
  have hD := hD0.self (sz := s.heap.size)
  generalize hAe : va_A [(mo, .inr (12, [.ref nw, .ref kp, .ref ik, .ref mr, .long 0, .long 1, .ref mw, .long 0, .int 0, .int 0, .long 0, .long 0, .ref mq, .ref mz, .ref my, .int 0, .ref mb, .int 0, .int 0, .int 0, .int 0, .int 0, .ref mx, .ref mv])), (nw, .inl (cn, 350, .inl (fun _ => 0))), (mr, .inl (cm, 3, .inl (fun _ => 0)))] s.heap.size = A at hD ⊢
  have hA : ∀ q : Nat, s.heap.size ≤ q → A q := fun q h => by rw [← hAe]; exact Or.inr h
  have hS : va_S A s.heap s.heap [] := va_S.rf
  have hP : va_P (dC, dI) vwCl [(mo, .inr (12, [.ref nw, .ref kp, .ref ik, .ref mr, .long 0, .long 1, .ref mw, .long 0, .int 0, .int 0, .long 0, .long 0, .ref mq, .ref mz, .ref my, .int 0, .ref mb, .int 0, .int 0, .int 0, .int 0, .int 0, .ref mx, .ref mv])), (nw, .inl (cn, 350, .inl (fun _ => 0))), (mr, .inl (cm, 3, .inl (fun _ => 0)))] s.heap := hP
  have hl := lv_entry ([.ref mo, .int na, .int nb]) (n := 9) (Nat.le_of_ble_eq_true rfl)
  rw [lg_entry_eq]
  generalize (lg_sl ([.ref mo, .int na, .int nb]) ++ List.replicate (9 - (lg_sl ([.ref mo, .int na, .int nb])).length) Slot.unset).toArray = ls at hl ⊢
  have hl : lv_has ls 9 [(0, .ref mo), (1, .int na), (2, .int nb)] := hl
  refine lv_iload_n hx hb dX12_look_0 rfl (lv_at hl 1 rfl) ?_
  refine vp_callSi (va_Run.run (va_runS (As := [.int na]) (rest := []) ⟨hx, hb, hml, hown, hts⟩ (k_m_isOff l dC dI na) (va_cwS 1 hts gX12_look_X12_isOff rfl rfl rfl (by decide +kernel) ⟨Nat.le_of_ble_eq_true rfl, Nat.le_of_ble_eq_true rfl⟩) ⟨fun a U g mk q => ⟨q.1, trivial⟩, fun U hU hW => ⟨rfl, trivial⟩⟩ rfl rfl hl.1 rfl (lv_room (Nat.le_of_ble_eq_true rfl)) dX12_look_1 ⟨Nat.le_of_ble_eq_true rfl, Nat.le_of_ble_eq_true rfl⟩)) (fun r_1 hw_2 => ?_)
  by_cases hc_3 : (-198) ≤ na ∧ na ≤ 198
  · obtain rfl : 1 = r_1 := (hw_2.trans (if_pos hc_3)).symm
    refine lv_if_eq (tgt := 11) hx hb dX12_look_4 (by decide) (fun c_4 => ?_) (fun c_4 => ?_)
    · exact absurd c_4 (by decide)
    · refine lv_iload_n hx hb dX12_look_7 rfl (lv_at hl 2 rfl) ?_
      refine lv_if_ge (tgt := 18) hx hb dX12_look_8 (by decide) (fun c_5 => ?_) (fun c_5 => ?_)
      · refine lv_aload_n hx hb dX12_look_18 rfl (lv_at hl 0 rfl) ?_
        refine lv_iload_n hx hb dX12_look_19 rfl (lv_at hl 1 rfl) ?_
        have hPc := hP.sub (ws' := [(mo, .inr (12, [.ref nw, .ref kp, .ref ik, .ref mr, .long 0, .long 1, .ref mw, .long 0, .int 0, .int 0, .long 0, .long 0, .ref mq, .ref mz, .ref my, .int 0, .ref mb, .int 0, .int 0, .int 0, .int 0, .int 0, .ref mx, .ref mv])), (nw, .inl (cn, 350, .inl (fun _ => 0)))]) [0, 1] rfl
        have hDc := hD.sub (ws' := [(mo, .inr (12, [.ref nw, .ref kp, .ref ik, .ref mr, .long 0, .long 1, .ref mw, .long 0, .int 0, .int 0, .long 0, .long 0, .ref mq, .ref mz, .ref my, .int 0, .ref mb, .int 0, .int 0, .int 0, .int 0, .int 0, .ref mx, .ref mv])), (nw, .inl (cn, 350, .inl (fun _ => 0)))]) [0, 1] (by decide) rfl
        have hKc := hK.sub (tys' := [(cn, .int)]) [0] rfl
        have hFc := va_free (wc := [(mo, .inr (12, [.ref nw, .ref kp, .ref ik, .ref mr, .long 0, .long 1, .ref mw, .long 0, .int 0, .int 0, .long 0, .long 0, .ref mq, .ref mz, .ref my, .int 0, .ref mb, .int 0, .int 0, .int 0, .int 0, .int 0, .ref mx, .ref mv])), (nw, .inl (cn, 350, .inl (fun _ => 0)))]) hD hS hA [0, 1] rfl
        refine va_callv (va_runV (As := [.int na]) (rest := []) ⟨hx, hb, hml, hown, hts⟩ (k_laySought l dC dI mo nw kp ik mr mw mq mz my mb mx mv cn na s.heap.size) (cwV 1 hts gX12_look_X12_laySought rfl rfl rfl (by decide +kernel) ⟨Nat.le_of_ble_eq_true rfl, Nat.le_of_ble_eq_true rfl⟩) ⟨fun a U g mk q => by obtain ⟨q0, q1, qP, qK, qD⟩ := q; exact ⟨q0, q1, qP, va_K.moved (u := U) (U := U.calling g mk a) (Vm.Alike.refl U.vm) qK, qD⟩, va_recv hK hP (ci := 12) (q0 := 0) rfl rfl, fun U hU hW => ⟨rfl, by rw [hU], by rw [hU]; exact hPc, va_K.moved hW.alike hKc, hDc.weaken (fun _ _ _ _ => trivial)⟩⟩ rfl rfl hl.1 rfl (lv_room (Nat.le_of_ble_eq_true rfl)) dX12_look_20 ⟨Nat.le_of_ble_eq_true rfl, Nat.le_of_ble_eq_true rfl⟩) hS (fun q _ h => hFc q h) hFc (fun u_ t H1 locs ht hvm hw_7 hB hz1 hk1 hS => ?_)
        obtain ⟨hP1, hK1, hD1⟩ := hB
        rw [ht] at hP1
        have hK1 := va_K.moved hvm.symm hK1
        obtain ⟨hP, hD⟩ := va_join (wr := [(mr, .inl (cm, 3, .inl (fun _ => 0)))]) (w1 := [(mo, .inr (12, [.ref nw, .ref kp, .ref ik, .ref mr, .long 0, .long 1, .ref mw, .long 0, .int 0, .int 0, .long 0, .long 0, .ref mq, .ref mz, .ref my, .int 0, .ref mb, .int 0, .int 0, .int 0, .int 0, .int 0, .ref mx, .ref mv])), (nw, .inl (cn, 350, .inl (fun _ => 0)))]) hP hD [0, 1] [2] rfl rfl (by decide) (by decide) hk1 hFc hP1 hD1
        generalize H1 = H at hP hS ⊢
        have hP : va_P (dC, dI) vwCl [(mr, .inl (cm, 3, .inl (fun _ => 0))), (mo, .inr (12, [.ref nw, .ref kp, .ref ik, .ref mr, .long 0, .long 1, .ref mw, .long 0, .int 0, .int 0, .long 0, .long 0, .ref mq, .ref mz, .ref my, .int 0, .ref mb, .int 0, .int 0, .int 0, .int 0, .int 0, .ref mx, .ref mv])), (nw, .inl (cn, 350, .inl (fun _ => 0)))] H := hP
        have hD : va_D A [(mr, .inl (cm, 3, .inl (fun _ => 0))), (mo, .inr (12, [.ref nw, .ref kp, .ref ik, .ref mr, .long 0, .long 1, .ref mw, .long 0, .int 0, .int 0, .long 0, .long 0, .ref mq, .ref mz, .ref my, .int 0, .ref mb, .int 0, .int 0, .int 0, .int 0, .int 0, .ref mx, .ref mv])), (nw, .inl (cn, 350, .inl (fun _ => 0)))] := hD
        refine lv_iload_n hx hb dX12_look_23 rfl (lv_at hl 2 rfl) ?_
        refine lv_aload_n hx hb dX12_look_24 rfl (lv_at hl 0 rfl) ?_
        refine va_get (D := (dC, dI)) (ci := 12) (v := .int 0) (C := RX12) (T := TX12) (N := 24) hx hb hts iw_k_m_look_X12 hown hK hP 1 rfl rfl 15 (by decide) (hts (.fieldLink RX12 218 "ThriceCountedModel" "soughtMany" "I") (by decide +kernel)) (fun _ h9 => h9) rfl dX12_look_25 ?_
        refine lv_icmp_lt (tgt := 34) hx hb dX12_look_28 (by decide) (fun c_8 => ?_) (fun c_8 => ?_)
        · exact absurd c_5 (tz_ltn c_8)
        · refine lv_bipush (v := (-5)) hx hb dX12_look_31 (by decide) ?_
          exact W.iret (v := (-5)) hx hb hr (fun t ht hW => ⟨⟨(-5), (), rfl, ((if_pos hc_3).trans (if_pos c_5)).symm, trivial⟩, hS.F ht⟩) hS.2.2 dX12_look_33
      · refine lv_aload_n hx hb dX12_look_11 rfl (lv_at hl 0 rfl) ?_
        refine lv_bipush (v := (-10)) hx hb dX12_look_12 (by decide) ?_
        have hPc := hP.sub (ws' := [(mo, .inr (12, [.ref nw, .ref kp, .ref ik, .ref mr, .long 0, .long 1, .ref mw, .long 0, .int 0, .int 0, .long 0, .long 0, .ref mq, .ref mz, .ref my, .int 0, .ref mb, .int 0, .int 0, .int 0, .int 0, .int 0, .ref mx, .ref mv])), (mr, .inl (cm, 3, .inl (fun _ => 0)))]) [0, 2] rfl
        have hDc := hD.sub (ws' := [(mo, .inr (12, [.ref nw, .ref kp, .ref ik, .ref mr, .long 0, .long 1, .ref mw, .long 0, .int 0, .int 0, .long 0, .long 0, .ref mq, .ref mz, .ref my, .int 0, .ref mb, .int 0, .int 0, .int 0, .int 0, .int 0, .ref mx, .ref mv])), (mr, .inl (cm, 3, .inl (fun _ => 0)))]) [0, 2] (by decide) rfl
        have hKc := hK.sub (tys' := [(cm, .int)]) [1] rfl
        have hFc := va_free (wc := [(mo, .inr (12, [.ref nw, .ref kp, .ref ik, .ref mr, .long 0, .long 1, .ref mw, .long 0, .int 0, .int 0, .long 0, .long 0, .ref mq, .ref mz, .ref my, .int 0, .ref mb, .int 0, .int 0, .int 0, .int 0, .int 0, .ref mx, .ref mv])), (mr, .inl (cm, 3, .inl (fun _ => 0)))]) hD hS hA [0, 2] rfl
        refine va_calli (va_runV (As := [.int (-10)]) (rest := []) ⟨hx, hb, hml, hown, hts⟩ (k_bad l dC dI mo nw kp ik mr mw mq mz my mb mx mv cm (-10) s.heap.size) (cwV 1 hts gX12_look_X12_bad rfl rfl rfl (by decide +kernel) ⟨Nat.le_of_ble_eq_true rfl, Nat.le_of_ble_eq_true rfl⟩) ⟨fun a U g mk q => by obtain ⟨q0, q1, qP, qK, qD⟩ := q; exact ⟨q0, q1, qP, va_K.moved (u := U) (U := U.calling g mk a) (Vm.Alike.refl U.vm) qK, qD⟩, va_recv hK hP (ci := 12) (q0 := 0) rfl rfl, fun U hU hW => ⟨rfl, by rw [hU], by rw [hU]; exact hPc, va_K.moved hW.alike hKc, hDc.weaken (fun _ _ _ _ => trivial)⟩⟩ rfl rfl hl.1 rfl (lv_room (Nat.le_of_ble_eq_true rfl)) dX12_look_14 ⟨Nat.le_of_ble_eq_true rfl, Nat.le_of_ble_eq_true rfl⟩) hS (fun q _ h => hFc q h) hFc (fun r_9 u_ t H1 locs ht hvm hw_10 hB hz1 hk1 hS => ?_)
        obtain ⟨hP, hD⟩ := va_join (wr := [(nw, .inl (cn, 350, .inl (fun _ => 0)))]) (w1 := []) hP hD [0, 2] [1] rfl rfl (by decide) (by decide) hk1 hFc tz_P0 tz_D0
        generalize H1 = H at hP hS ⊢
        have hP : va_P (dC, dI) vwCl [(nw, .inl (cn, 350, .inl (fun _ => 0)))] H := hP
        have hD : va_D A [(nw, .inl (cn, 350, .inl (fun _ => 0)))] := hD
        obtain rfl : (-10) = r_9 := hw_10.symm
        exact W.iret (v := (-10)) hx hb hr (fun t ht hW => ⟨⟨(-10), (), rfl, ((if_pos hc_3).trans (if_neg c_5)).symm, trivial⟩, hS.F ht⟩) hS.2.2 dX12_look_17
  · obtain rfl : 0 = r_1 := (hw_2.trans (if_neg hc_3)).symm
    refine lv_if_eq (tgt := 11) hx hb dX12_look_4 (by decide) (fun c_11 => ?_) (fun c_11 => ?_)
    · refine lv_aload_n hx hb dX12_look_11 rfl (lv_at hl 0 rfl) ?_
      refine lv_bipush (v := (-10)) hx hb dX12_look_12 (by decide) ?_
      have hPc := hP.sub (ws' := [(mo, .inr (12, [.ref nw, .ref kp, .ref ik, .ref mr, .long 0, .long 1, .ref mw, .long 0, .int 0, .int 0, .long 0, .long 0, .ref mq, .ref mz, .ref my, .int 0, .ref mb, .int 0, .int 0, .int 0, .int 0, .int 0, .ref mx, .ref mv])), (mr, .inl (cm, 3, .inl (fun _ => 0)))]) [0, 2] rfl
      have hDc := hD.sub (ws' := [(mo, .inr (12, [.ref nw, .ref kp, .ref ik, .ref mr, .long 0, .long 1, .ref mw, .long 0, .int 0, .int 0, .long 0, .long 0, .ref mq, .ref mz, .ref my, .int 0, .ref mb, .int 0, .int 0, .int 0, .int 0, .int 0, .ref mx, .ref mv])), (mr, .inl (cm, 3, .inl (fun _ => 0)))]) [0, 2] (by decide) rfl
      have hKc := hK.sub (tys' := [(cm, .int)]) [1] rfl
      have hFc := va_free (wc := [(mo, .inr (12, [.ref nw, .ref kp, .ref ik, .ref mr, .long 0, .long 1, .ref mw, .long 0, .int 0, .int 0, .long 0, .long 0, .ref mq, .ref mz, .ref my, .int 0, .ref mb, .int 0, .int 0, .int 0, .int 0, .int 0, .ref mx, .ref mv])), (mr, .inl (cm, 3, .inl (fun _ => 0)))]) hD hS hA [0, 2] rfl
      refine va_calli (va_runV (As := [.int (-10)]) (rest := []) ⟨hx, hb, hml, hown, hts⟩ (k_bad l dC dI mo nw kp ik mr mw mq mz my mb mx mv cm (-10) s.heap.size) (cwV 1 hts gX12_look_X12_bad rfl rfl rfl (by decide +kernel) ⟨Nat.le_of_ble_eq_true rfl, Nat.le_of_ble_eq_true rfl⟩) ⟨fun a U g mk q => by obtain ⟨q0, q1, qP, qK, qD⟩ := q; exact ⟨q0, q1, qP, va_K.moved (u := U) (U := U.calling g mk a) (Vm.Alike.refl U.vm) qK, qD⟩, va_recv hK hP (ci := 12) (q0 := 0) rfl rfl, fun U hU hW => ⟨rfl, by rw [hU], by rw [hU]; exact hPc, va_K.moved hW.alike hKc, hDc.weaken (fun _ _ _ _ => trivial)⟩⟩ rfl rfl hl.1 rfl (lv_room (Nat.le_of_ble_eq_true rfl)) dX12_look_14 ⟨Nat.le_of_ble_eq_true rfl, Nat.le_of_ble_eq_true rfl⟩) hS (fun q _ h => hFc q h) hFc (fun r_12 u_ t H1 locs ht hvm hw_13 hB hz1 hk1 hS => ?_)
      obtain ⟨hP, hD⟩ := va_join (wr := [(nw, .inl (cn, 350, .inl (fun _ => 0)))]) (w1 := []) hP hD [0, 2] [1] rfl rfl (by decide) (by decide) hk1 hFc tz_P0 tz_D0
      generalize H1 = H at hP hS ⊢
      have hP : va_P (dC, dI) vwCl [(nw, .inl (cn, 350, .inl (fun _ => 0)))] H := hP
      have hD : va_D A [(nw, .inl (cn, 350, .inl (fun _ => 0)))] := hD
      obtain rfl : (-10) = r_12 := hw_13.symm
      exact W.iret (v := (-10)) hx hb hr (fun t ht hW => ⟨⟨(-10), (), rfl, (if_neg hc_3).symm, trivial⟩, hS.F ht⟩) hS.2.2 dX12_look_17
    · exact absurd c_11 (by decide)
set_option maxRecDepth 20000 in
theorem ggX12_writeOff_X12_isOff : GoodIn wsX12_writeOff wsX12_isOff := goodIn_r _ [6, 7, 8, 9, 10, 5, 11] (by decide +kernel) (by decide +kernel)
set_option maxRecDepth 20000 in
theorem gX12_writeOff_X12_isOff : GoodIn wsX12_writeOff (va_wsS RX12 212 yX12_isOff wsX12_isOff) := goodIn_app (goodIn_of _ (by decide +kernel)) ggX12_writeOff_X12_isOff
set_option maxRecDepth 20000 in
theorem ggX12_writeOff_X12_in : GoodIn wsX12_writeOff wsX12_in := goodIn_r _ [11] (by decide +kernel) (by decide +kernel)
set_option maxRecDepth 20000 in
theorem gX12_writeOff_X12_in : GoodIn wsX12_writeOff (va_wsS RX12 49 yX12_in wsX12_in) := goodIn_app (goodIn_of _ (by decide +kernel)) ggX12_writeOff_X12_in
set_option maxRecDepth 20000 in
theorem ggX12_writeOff_X12_bad : GoodIn wsX12_writeOff wsX12_bad := goodIn_r _ [15, 16, 21, 22, 23, 24, 25, 26, 27, 28, 29, 30, 31, 32, 33, 34, 35, 36, 37, 38, 39, 40, 41, 42, 43, 44] (by decide +kernel) (by decide +kernel)
set_option maxRecDepth 20000 in
theorem gX12_writeOff_X12_bad : GoodIn wsX12_writeOff (wsV RX12 61 RX12 yX12_bad wsX12_bad) := goodIn_app (goodIn_of _ (by decide +kernel)) ggX12_writeOff_X12_bad
theorem dX12_writeOff_0 : decode cX12_writeOff 0 = .ok (.iload_n 1, 1) := by decide +kernel
theorem dX12_writeOff_1 : decode cX12_writeOff 1 = .ok (.invokestatic 212, 3) := by decide +kernel
theorem dX12_writeOff_4 : decode cX12_writeOff 4 = .ok (.ifCond .eq 15, 3) := by decide +kernel
theorem dX12_writeOff_7 : decode cX12_writeOff 7 = .ok (.iload_n 2, 1) := by decide +kernel
theorem dX12_writeOff_8 : decode cX12_writeOff 8 = .ok (.i2l, 1) := by decide +kernel
theorem dX12_writeOff_9 : decode cX12_writeOff 9 = .ok (.lconst 0, 1) := by decide +kernel
theorem dX12_writeOff_10 : decode cX12_writeOff 10 = .ok (.ldc2_w 204, 3) := by decide +kernel
theorem dX12_writeOff_13 : decode cX12_writeOff 13 = .ok (.invokestatic 49, 3) := by decide +kernel
theorem dX12_writeOff_16 : decode cX12_writeOff 16 = .ok (.ifCond .ne 10, 3) := by decide +kernel
theorem dX12_writeOff_26 : decode cX12_writeOff 26 = .ok (.iload_n 1, 1) := by decide +kernel
theorem dX12_writeOff_27 : decode cX12_writeOff 27 = .ok (.ifCond .ge 8, 3) := by decide +kernel
theorem dX12_writeOff_35 : decode cX12_writeOff 35 = .ok (.iload_n 1, 1) := by decide +kernel
theorem dX12_writeOff_36 : decode cX12_writeOff 36 = .ok (.istore_n 3, 1) := by decide +kernel
theorem dX12_writeOff_37 : decode cX12_writeOff 37 = .ok (.iconst 1, 1) := by decide +kernel
theorem dX12_writeOff_38 : decode cX12_writeOff 38 = .ok (.istore 4, 2) := by decide +kernel
theorem dX12_writeOff_40 : decode cX12_writeOff 40 = .ok (.iconst 0, 1) := by decide +kernel
theorem dX12_writeOff_41 : decode cX12_writeOff 41 = .ok (.istore 5, 2) := by decide +kernel
theorem dX12_writeOff_43 : decode cX12_writeOff 43 = .ok (.iload 5, 2) := by decide +kernel
theorem dX12_writeOff_45 : decode cX12_writeOff 45 = .ok (.aload_n 0, 1) := by decide +kernel
theorem dX12_writeOff_46 : decode cX12_writeOff 46 = .ok (.getfield 7, 3) := by decide +kernel
theorem dX12_writeOff_49 : decode cX12_writeOff 49 = .ok (.iconst 3, 1) := by decide +kernel
theorem dX12_writeOff_50 : decode cX12_writeOff 50 = .ok (.iaload, 1) := by decide +kernel
theorem dX12_writeOff_51 : decode cX12_writeOff 51 = .ok (.if_icmp .ge 56, 3) := by decide +kernel
theorem dX12_writeOff_107 : decode cX12_writeOff 107 = .ok (.iload 4, 2) := by decide +kernel
theorem dX12_writeOff_109 : decode cX12_writeOff 109 = .ok (.ifCond .eq 7, 3) := by decide +kernel
theorem dX12_writeOff_112 : decode cX12_writeOff 112 = .ok (.iconst 1, 1) := by decide +kernel
theorem dX12_writeOff_113 : decode cX12_writeOff 113 = .ok (.goto 4, 3) := by decide +kernel
theorem dX12_writeOff_117 : decode cX12_writeOff 117 = .ok (.ireturn, 1) := by decide +kernel
theorem dX12_writeOff_30 : decode cX12_writeOff 30 = .ok (.iload_n 1, 1) := by decide +kernel
theorem dX12_writeOff_31 : decode cX12_writeOff 31 = .ok (.ineg, 1) := by decide +kernel
theorem dX12_writeOff_32 : decode cX12_writeOff 32 = .ok (.goto 4, 3) := by decide +kernel
theorem dX12_writeOff_19 : decode cX12_writeOff 19 = .ok (.aload_n 0, 1) := by decide +kernel
theorem dX12_writeOff_20 : decode cX12_writeOff 20 = .ok (.bipush (-2), 2) := by decide +kernel
theorem dX12_writeOff_22 : decode cX12_writeOff 22 = .ok (.invokevirtual 61, 3) := by decide +kernel
theorem dX12_writeOff_25 : decode cX12_writeOff 25 = .ok (.ireturn, 1) := by decide +kernel
set_option maxRecDepth 20000 in
theorem iw_k_m_writeOff_X12 : ∀ w ∈ wsX120, w ∈ wsX12_writeOff := by decide +kernel
set_option maxHeartbeats 4000000 in
set_option maxRecDepth 100000 in
theorem k_m_writeOff (l : Launch) (dC : Nat → ClassId) (dI : Nat → Nat → Nat) (mo : Nat) (nw : Nat) (kp : Nat) (ik : Nat) (mr : Nat) (mw : Nat) (mq : Nat) (mz : Nat) (my : Nat) (mb : Nat) (mx : Nat) (mv : Nat) (cn : ClassId) (cm : ClassId) (na : Int32) (nb : Int32) (sz : Nat) : Met l yX12_writeOff wsX12_writeOff ({ frames := 2, cells := 0, slots := 0, locals := 45 }) (va_Pc [.ref mo, .int na, .int nb] (fun U => U.heap.size = sz ∧ va_P (dC, dI) vwCl [(mo, .inr (12, [.ref nw, .ref kp, .ref ik, .ref mr, .long 0, .long 1, .ref mw, .long 0, .int 0, .int 0, .long 0, .long 0, .ref mq, .ref mz, .ref my, .int 0, .ref mb, .int 0, .int 0, .int 0, .int 0, .int 0, .ref mx, .ref mv])), (nw, .inl (cn, 350, .inl (fun _ => 0))), (mr, .inl (cm, 3, .inl (fun _ => 0)))] U.heap ∧ va_K (dC, dI) vwCl [(cn, .int), (cm, .int)] U ∧ va_D (fun _ => True) [(mo, .inr (12, [.ref nw, .ref kp, .ref ik, .ref mr, .long 0, .long 1, .ref mw, .long 0, .int 0, .int 0, .long 0, .long 0, .ref mq, .ref mz, .ref my, .int 0, .ref mb, .int 0, .int 0, .int 0, .int 0, .int 0, .ref mx, .ref mv])), (nw, .inl (cn, 350, .inl (fun _ => 0))), (mr, .inl (cm, 3, .inl (fun _ => 0)))])) (va_Qi (fun (r : Int32) (_ : Unit) => r = (if (-198) ≤ na ∧ na ≤ 198 then (if 0 ≤ nb ∧ nb ≤ 99 then 1 else (-2)) else (-2))) (fun _ _ => True) (va_A [(mo, .inr (12, [.ref nw, .ref kp, .ref ik, .ref mr, .long 0, .long 1, .ref mw, .long 0, .int 0, .int 0, .long 0, .long 0, .ref mq, .ref mz, .ref my, .int 0, .ref mb, .int 0, .int 0, .int 0, .int 0, .int 0, .ref mx, .ref mv])), (nw, .inl (cn, 350, .inl (fun _ => 0))), (mr, .inl (cm, 3, .inl (fun _ => 0)))] sz)) 0 0 (va_A [(mo, .inr (12, [.ref nw, .ref kp, .ref ik, .ref mr, .long 0, .long 1, .ref mw, .long 0, .int 0, .int 0, .long 0, .long 0, .ref mq, .ref mz, .ref my, .int 0, .ref mb, .int 0, .int 0, .int 0, .int 0, .int 0, .ref mx, .ref mv])), (nw, .inl (cn, 350, .inl (fun _ => 0))), (mr, .inl (cm, 3, .inl (fun _ => 0)))] sz) := by
  refine Met.ofW (cc := cX12_writeOff) (maxL := 6) (ret := (some .int)) (by decide) rfl ?_
  intro p e s m args below meth c s₁ B hml hv
  obtain ⟨rfl, hsz, hP, hK, hD0⟩ := hv
  have hx := B.exec
  have hb := B.bytes
  have hr := B.returns
  have hts := atoms_spec (ws := wsX12_writeOff) B.pre
  have hown : s.vm.findClass RX12 = some m.cls := findClass_of_methodNamed B.named
  have hlocks := B.notSynchronized
  subst hsz
  have hD := hD0.self (sz := s.heap.size)
  generalize hAe : va_A [(mo, .inr (12, [.ref nw, .ref kp, .ref ik, .ref mr, .long 0, .long 1, .ref mw, .long 0, .int 0, .int 0, .long 0, .long 0, .ref mq, .ref mz, .ref my, .int 0, .ref mb, .int 0, .int 0, .int 0, .int 0, .int 0, .ref mx, .ref mv])), (nw, .inl (cn, 350, .inl (fun _ => 0))), (mr, .inl (cm, 3, .inl (fun _ => 0)))] s.heap.size = A at hD ⊢
  have hA : ∀ q : Nat, s.heap.size ≤ q → A q := fun q h => by rw [← hAe]; exact Or.inr h
  have hS : va_S A s.heap s.heap [] := va_S.rf
  have hP : va_P (dC, dI) vwCl [(mo, .inr (12, [.ref nw, .ref kp, .ref ik, .ref mr, .long 0, .long 1, .ref mw, .long 0, .int 0, .int 0, .long 0, .long 0, .ref mq, .ref mz, .ref my, .int 0, .ref mb, .int 0, .int 0, .int 0, .int 0, .int 0, .ref mx, .ref mv])), (nw, .inl (cn, 350, .inl (fun _ => 0))), (mr, .inl (cm, 3, .inl (fun _ => 0)))] s.heap := hP
  have hl := lv_entry ([.ref mo, .int na, .int nb]) (n := 6) (Nat.le_of_ble_eq_true rfl)
  rw [lg_entry_eq]
  generalize (lg_sl ([.ref mo, .int na, .int nb]) ++ List.replicate (6 - (lg_sl ([.ref mo, .int na, .int nb])).length) Slot.unset).toArray = ls at hl ⊢
  have hl : lv_has ls 6 [(0, .ref mo), (1, .int na), (2, .int nb)] := hl
  refine lv_iload_n hx hb dX12_writeOff_0 rfl (lv_at hl 1 rfl) ?_
  refine vp_callSi (va_Run.run (va_runS (As := [.int na]) (rest := []) ⟨hx, hb, hml, hown, hts⟩ (k_m_isOff l dC dI na) (va_cwS 1 hts gX12_writeOff_X12_isOff rfl rfl rfl (by decide +kernel) ⟨Nat.le_of_ble_eq_true rfl, Nat.le_of_ble_eq_true rfl⟩) ⟨fun a U g mk q => ⟨q.1, trivial⟩, fun U hU hW => ⟨rfl, trivial⟩⟩ rfl rfl hl.1 rfl (lv_room (Nat.le_of_ble_eq_true rfl)) dX12_writeOff_1 ⟨Nat.le_of_ble_eq_true rfl, Nat.le_of_ble_eq_true rfl⟩)) (fun r_1 hw_2 => ?_)
  by_cases hc_3 : (-198) ≤ na ∧ na ≤ 198
  · obtain rfl : 1 = r_1 := (hw_2.trans (if_pos hc_3)).symm
    refine lv_if_eq (tgt := 19) hx hb dX12_writeOff_4 (by decide) (fun c_4 => ?_) (fun c_4 => ?_)
    · exact absurd c_4 (by decide)
    · refine lv_iload_n hx hb dX12_writeOff_7 rfl (lv_at hl 2 rfl) ?_
      refine lv_i2l (v := nb.toInt64) hx hb dX12_writeOff_8 rfl ?_
      refine lv_lconst (v := 0) hx hb dX12_writeOff_9 (by decide) ?_
      refine lv_ldc2 hx hb hown (hts (.constantLong RX12 204 (99)) (by decide +kernel)) dX12_writeOff_10 ?_
      refine vp_callSi (va_Run.run (va_runS (As := [.long nb.toInt64, .long 0, .long 99]) (rest := []) ⟨hx, hb, hml, hown, hts⟩ (k_in l dC dI nb.toInt64 0 99) (va_cwS 3 hts gX12_writeOff_X12_in rfl rfl rfl (by decide +kernel) ⟨Nat.le_of_ble_eq_true rfl, Nat.le_of_ble_eq_true rfl⟩) ⟨fun a U g mk q => ⟨q.1, trivial⟩, fun U hU hW => ⟨rfl, trivial⟩⟩ rfl rfl hl.1 rfl (lv_room (Nat.le_of_ble_eq_true rfl)) dX12_writeOff_13 ⟨Nat.le_of_ble_eq_true rfl, Nat.le_of_ble_eq_true rfl⟩)) (fun r_5 hw_6 => ?_)
      by_cases hc_7 : 0 ≤ nb ∧ nb ≤ 99
      · obtain rfl : 1 = r_5 := (hw_6.trans (if_pos ((tz_in64 (by first | rfl | decide) rfl (by first | rfl | decide)).mpr hc_7))).symm
        refine lv_if_ne (tgt := 26) hx hb dX12_writeOff_16 (by decide) (fun c_8 => ?_) (fun c_8 => ?_)
        · refine lv_iload_n hx hb dX12_writeOff_26 rfl (lv_at hl 1 rfl) ?_
          refine lv_if_ge (tgt := 35) hx hb dX12_writeOff_27 (by decide) (fun c_9 => ?_) (fun c_9 => ?_)
          · refine lv_iload_n hx hb dX12_writeOff_35 rfl (lv_at hl 1 rfl) ?_
            refine lv_istore_n (lv' := [(3, .int na), (0, .ref mo), (1, .int na), (2, .int nb)]) hx hb dX12_writeOff_36 rfl hl (by decide) rfl (fun ls hl => ?_)
            refine lv_iconst (v := 1) hx hb dX12_writeOff_37 (by decide) ?_
            refine lv_istore (lv' := [(4, .int 1), (3, .int na), (0, .ref mo), (1, .int na), (2, .int nb)]) hx hb dX12_writeOff_38 hl (by decide) rfl (fun ls hl => ?_)
            refine lv_iconst (v := 0) hx hb dX12_writeOff_40 (by decide) ?_
            refine lv_istore (lv' := [(5, .int 0), (4, .int 1), (3, .int na), (0, .ref mo), (1, .int na), (2, .int nb)]) hx hb dX12_writeOff_41 hl (by decide) rfl (fun ls hl => ?_)
            refine lv_iload hx hb dX12_writeOff_43 (lv_at hl 0 rfl) ?_
            refine lv_aload_n hx hb dX12_writeOff_45 rfl (lv_at hl 3 rfl) ?_
            refine va_get (D := (dC, dI)) (ci := 12) (v := .ref nw) (C := RX12) (T := TX12) (N := 24) hx hb hts iw_k_m_writeOff_X12 hown hK hP 0 rfl rfl 0 (by decide) (hts (.fieldLink RX12 7 "ThriceCountedModel" "now" "[I") (by decide +kernel)) (fun _ h9 => h9) rfl dX12_writeOff_46 ?_
            refine lv_iconst (v := 3) hx hb dX12_writeOff_49 (by decide) ?_
            refine va_iald hx hb hK hP 1 0 rfl rfl (show ¬ ((3 : Int32) < 0 ∨ 350 ≤ (3 : Int32).toNatClampNeg) by decide) dX12_writeOff_50 ?_
            refine tz_i 0 rfl ?_
            refine lv_icmp_ge (tgt := 107) hx hb dX12_writeOff_51 (by decide) (fun c_10 => ?_) (fun c_10 => ?_)
            · refine lv_iload hx hb dX12_writeOff_107 (lv_at hl 1 rfl) ?_
              refine lv_if_eq (tgt := 116) hx hb dX12_writeOff_109 (by decide) (fun c_11 => ?_) (fun c_11 => ?_)
              · exact absurd c_11 (by decide)
              · refine lv_iconst (v := 1) hx hb dX12_writeOff_112 (by decide) ?_
                refine lv_goto (tgt := 117) hx hb dX12_writeOff_113 (by decide) ?_
                exact W.iret (v := 1) hx hb hr (fun t ht hW => ⟨⟨1, (), rfl, ((if_pos hc_3).trans (if_pos hc_7)).symm, trivial⟩, hS.F ht⟩) hS.2.2 dX12_writeOff_117
            · exact absurd c_10 (by decide)
          · refine lv_iload_n hx hb dX12_writeOff_30 rfl (lv_at hl 1 rfl) ?_
            refine lv_ineg hx hb dX12_writeOff_31 ?_
            refine lv_goto (tgt := 36) hx hb dX12_writeOff_32 (by decide) ?_
            refine lv_istore_n (lv' := [(3, .int (-na)), (0, .ref mo), (1, .int na), (2, .int nb)]) hx hb dX12_writeOff_36 rfl hl (by decide) rfl (fun ls hl => ?_)
            refine lv_iconst (v := 1) hx hb dX12_writeOff_37 (by decide) ?_
            refine lv_istore (lv' := [(4, .int 1), (3, .int (-na)), (0, .ref mo), (1, .int na), (2, .int nb)]) hx hb dX12_writeOff_38 hl (by decide) rfl (fun ls hl => ?_)
            refine lv_iconst (v := 0) hx hb dX12_writeOff_40 (by decide) ?_
            refine lv_istore (lv' := [(5, .int 0), (4, .int 1), (3, .int (-na)), (0, .ref mo), (1, .int na), (2, .int nb)]) hx hb dX12_writeOff_41 hl (by decide) rfl (fun ls hl => ?_)
            refine lv_iload hx hb dX12_writeOff_43 (lv_at hl 0 rfl) ?_
            refine lv_aload_n hx hb dX12_writeOff_45 rfl (lv_at hl 3 rfl) ?_
            refine va_get (D := (dC, dI)) (ci := 12) (v := .ref nw) (C := RX12) (T := TX12) (N := 24) hx hb hts iw_k_m_writeOff_X12 hown hK hP 0 rfl rfl 0 (by decide) (hts (.fieldLink RX12 7 "ThriceCountedModel" "now" "[I") (by decide +kernel)) (fun _ h9 => h9) rfl dX12_writeOff_46 ?_
            refine lv_iconst (v := 3) hx hb dX12_writeOff_49 (by decide) ?_
            refine va_iald hx hb hK hP 1 0 rfl rfl (show ¬ ((3 : Int32) < 0 ∨ 350 ≤ (3 : Int32).toNatClampNeg) by decide) dX12_writeOff_50 ?_
            refine tz_i 0 rfl ?_
            refine lv_icmp_ge (tgt := 107) hx hb dX12_writeOff_51 (by decide) (fun c_12 => ?_) (fun c_12 => ?_)
            · refine lv_iload hx hb dX12_writeOff_107 (lv_at hl 1 rfl) ?_
              refine lv_if_eq (tgt := 116) hx hb dX12_writeOff_109 (by decide) (fun c_13 => ?_) (fun c_13 => ?_)
              · exact absurd c_13 (by decide)
              · refine lv_iconst (v := 1) hx hb dX12_writeOff_112 (by decide) ?_
                refine lv_goto (tgt := 117) hx hb dX12_writeOff_113 (by decide) ?_
                exact W.iret (v := 1) hx hb hr (fun t ht hW => ⟨⟨1, (), rfl, ((if_pos hc_3).trans (if_pos hc_7)).symm, trivial⟩, hS.F ht⟩) hS.2.2 dX12_writeOff_117
            · exact absurd c_12 (by decide)
        · exact absurd c_8 (by decide)
      · obtain rfl : 0 = r_5 := (hw_6.trans (if_neg (fun z => hc_7 ((tz_in64 (by first | rfl | decide) rfl (by first | rfl | decide)).mp z)))).symm
        refine lv_if_ne (tgt := 26) hx hb dX12_writeOff_16 (by decide) (fun c_14 => ?_) (fun c_14 => ?_)
        · exact absurd c_14 (by decide)
        · refine lv_aload_n hx hb dX12_writeOff_19 rfl (lv_at hl 0 rfl) ?_
          refine lv_bipush (v := (-2)) hx hb dX12_writeOff_20 (by decide) ?_
          have hPc := hP.sub (ws' := [(mo, .inr (12, [.ref nw, .ref kp, .ref ik, .ref mr, .long 0, .long 1, .ref mw, .long 0, .int 0, .int 0, .long 0, .long 0, .ref mq, .ref mz, .ref my, .int 0, .ref mb, .int 0, .int 0, .int 0, .int 0, .int 0, .ref mx, .ref mv])), (mr, .inl (cm, 3, .inl (fun _ => 0)))]) [0, 2] rfl
          have hDc := hD.sub (ws' := [(mo, .inr (12, [.ref nw, .ref kp, .ref ik, .ref mr, .long 0, .long 1, .ref mw, .long 0, .int 0, .int 0, .long 0, .long 0, .ref mq, .ref mz, .ref my, .int 0, .ref mb, .int 0, .int 0, .int 0, .int 0, .int 0, .ref mx, .ref mv])), (mr, .inl (cm, 3, .inl (fun _ => 0)))]) [0, 2] (by decide) rfl
          have hKc := hK.sub (tys' := [(cm, .int)]) [1] rfl
          have hFc := va_free (wc := [(mo, .inr (12, [.ref nw, .ref kp, .ref ik, .ref mr, .long 0, .long 1, .ref mw, .long 0, .int 0, .int 0, .long 0, .long 0, .ref mq, .ref mz, .ref my, .int 0, .ref mb, .int 0, .int 0, .int 0, .int 0, .int 0, .ref mx, .ref mv])), (mr, .inl (cm, 3, .inl (fun _ => 0)))]) hD hS hA [0, 2] rfl
          refine va_calli (va_runV (As := [.int (-2)]) (rest := []) ⟨hx, hb, hml, hown, hts⟩ (k_bad l dC dI mo nw kp ik mr mw mq mz my mb mx mv cm (-2) s.heap.size) (cwV 1 hts gX12_writeOff_X12_bad rfl rfl rfl (by decide +kernel) ⟨Nat.le_of_ble_eq_true rfl, Nat.le_of_ble_eq_true rfl⟩) ⟨fun a U g mk q => by obtain ⟨q0, q1, qP, qK, qD⟩ := q; exact ⟨q0, q1, qP, va_K.moved (u := U) (U := U.calling g mk a) (Vm.Alike.refl U.vm) qK, qD⟩, va_recv hK hP (ci := 12) (q0 := 0) rfl rfl, fun U hU hW => ⟨rfl, by rw [hU], by rw [hU]; exact hPc, va_K.moved hW.alike hKc, hDc.weaken (fun _ _ _ _ => trivial)⟩⟩ rfl rfl hl.1 rfl (lv_room (Nat.le_of_ble_eq_true rfl)) dX12_writeOff_22 ⟨Nat.le_of_ble_eq_true rfl, Nat.le_of_ble_eq_true rfl⟩) hS (fun q _ h => hFc q h) hFc (fun r_15 u_ t H1 locs ht hvm hw_16 hB hz1 hk1 hS => ?_)
          obtain ⟨hP, hD⟩ := va_join (wr := [(nw, .inl (cn, 350, .inl (fun _ => 0)))]) (w1 := []) hP hD [0, 2] [1] rfl rfl (by decide) (by decide) hk1 hFc tz_P0 tz_D0
          generalize H1 = H at hP hS ⊢
          have hP : va_P (dC, dI) vwCl [(nw, .inl (cn, 350, .inl (fun _ => 0)))] H := hP
          have hD : va_D A [(nw, .inl (cn, 350, .inl (fun _ => 0)))] := hD
          obtain rfl : (-2) = r_15 := hw_16.symm
          exact W.iret (v := (-2)) hx hb hr (fun t ht hW => ⟨⟨(-2), (), rfl, ((if_pos hc_3).trans (if_neg hc_7)).symm, trivial⟩, hS.F ht⟩) hS.2.2 dX12_writeOff_25
  · obtain rfl : 0 = r_1 := (hw_2.trans (if_neg hc_3)).symm
    refine lv_if_eq (tgt := 19) hx hb dX12_writeOff_4 (by decide) (fun c_17 => ?_) (fun c_17 => ?_)
    · refine lv_aload_n hx hb dX12_writeOff_19 rfl (lv_at hl 0 rfl) ?_
      refine lv_bipush (v := (-2)) hx hb dX12_writeOff_20 (by decide) ?_
      have hPc := hP.sub (ws' := [(mo, .inr (12, [.ref nw, .ref kp, .ref ik, .ref mr, .long 0, .long 1, .ref mw, .long 0, .int 0, .int 0, .long 0, .long 0, .ref mq, .ref mz, .ref my, .int 0, .ref mb, .int 0, .int 0, .int 0, .int 0, .int 0, .ref mx, .ref mv])), (mr, .inl (cm, 3, .inl (fun _ => 0)))]) [0, 2] rfl
      have hDc := hD.sub (ws' := [(mo, .inr (12, [.ref nw, .ref kp, .ref ik, .ref mr, .long 0, .long 1, .ref mw, .long 0, .int 0, .int 0, .long 0, .long 0, .ref mq, .ref mz, .ref my, .int 0, .ref mb, .int 0, .int 0, .int 0, .int 0, .int 0, .ref mx, .ref mv])), (mr, .inl (cm, 3, .inl (fun _ => 0)))]) [0, 2] (by decide) rfl
      have hKc := hK.sub (tys' := [(cm, .int)]) [1] rfl
      have hFc := va_free (wc := [(mo, .inr (12, [.ref nw, .ref kp, .ref ik, .ref mr, .long 0, .long 1, .ref mw, .long 0, .int 0, .int 0, .long 0, .long 0, .ref mq, .ref mz, .ref my, .int 0, .ref mb, .int 0, .int 0, .int 0, .int 0, .int 0, .ref mx, .ref mv])), (mr, .inl (cm, 3, .inl (fun _ => 0)))]) hD hS hA [0, 2] rfl
      refine va_calli (va_runV (As := [.int (-2)]) (rest := []) ⟨hx, hb, hml, hown, hts⟩ (k_bad l dC dI mo nw kp ik mr mw mq mz my mb mx mv cm (-2) s.heap.size) (cwV 1 hts gX12_writeOff_X12_bad rfl rfl rfl (by decide +kernel) ⟨Nat.le_of_ble_eq_true rfl, Nat.le_of_ble_eq_true rfl⟩) ⟨fun a U g mk q => by obtain ⟨q0, q1, qP, qK, qD⟩ := q; exact ⟨q0, q1, qP, va_K.moved (u := U) (U := U.calling g mk a) (Vm.Alike.refl U.vm) qK, qD⟩, va_recv hK hP (ci := 12) (q0 := 0) rfl rfl, fun U hU hW => ⟨rfl, by rw [hU], by rw [hU]; exact hPc, va_K.moved hW.alike hKc, hDc.weaken (fun _ _ _ _ => trivial)⟩⟩ rfl rfl hl.1 rfl (lv_room (Nat.le_of_ble_eq_true rfl)) dX12_writeOff_22 ⟨Nat.le_of_ble_eq_true rfl, Nat.le_of_ble_eq_true rfl⟩) hS (fun q _ h => hFc q h) hFc (fun r_18 u_ t H1 locs ht hvm hw_19 hB hz1 hk1 hS => ?_)
      obtain ⟨hP, hD⟩ := va_join (wr := [(nw, .inl (cn, 350, .inl (fun _ => 0)))]) (w1 := []) hP hD [0, 2] [1] rfl rfl (by decide) (by decide) hk1 hFc tz_P0 tz_D0
      generalize H1 = H at hP hS ⊢
      have hP : va_P (dC, dI) vwCl [(nw, .inl (cn, 350, .inl (fun _ => 0)))] H := hP
      have hD : va_D A [(nw, .inl (cn, 350, .inl (fun _ => 0)))] := hD
      obtain rfl : (-2) = r_18 := hw_19.symm
      exact W.iret (v := (-2)) hx hb hr (fun t ht hW => ⟨⟨(-2), (), rfl, (if_neg hc_3).symm, trivial⟩, hS.F ht⟩) hS.2.2 dX12_writeOff_25
    · exact absurd c_17 (by decide)
set_option maxRecDepth 20000 in
theorem ggX12_part_X12_bad : GoodIn wsX12_part wsX12_bad := goodIn_r _ [7, 8, 9, 10, 11, 12, 13, 14, 15, 16, 17, 18, 19, 20, 21, 22, 23, 24, 25, 26, 27, 28, 29, 30, 31, 32] (by decide +kernel) (by decide +kernel)
set_option maxRecDepth 20000 in
theorem gX12_part_X12_bad : GoodIn wsX12_part (wsV RX12 61 RX12 yX12_bad wsX12_bad) := goodIn_app (goodIn_of _ (by decide +kernel)) ggX12_part_X12_bad
theorem dX12_part_0 : decode cX12_part 0 = .ok (.iload_n 1, 1) := by decide +kernel
theorem dX12_part_1 : decode cX12_part 1 = .ok (.ifCond .ne 10, 3) := by decide +kernel
theorem dX12_part_11 : decode cX12_part 11 = .ok (.iload_n 1, 1) := by decide +kernel
theorem dX12_part_12 : decode cX12_part 12 = .ok (.iconst 1, 1) := by decide +kernel
theorem dX12_part_13 : decode cX12_part 13 = .ok (.if_icmp .ne 10, 3) := by decide +kernel
theorem dX12_part_23 : decode cX12_part 23 = .ok (.aload_n 0, 1) := by decide +kernel
theorem dX12_part_24 : decode cX12_part 24 = .ok (.bipush (-2), 2) := by decide +kernel
theorem dX12_part_26 : decode cX12_part 26 = .ok (.invokevirtual 61, 3) := by decide +kernel
theorem dX12_part_29 : decode cX12_part 29 = .ok (.i2l, 1) := by decide +kernel
theorem dX12_part_30 : decode cX12_part 30 = .ok (.lreturn, 1) := by decide +kernel
theorem dX12_part_16 : decode cX12_part 16 = .ok (.aload_n 0, 1) := by decide +kernel
theorem dX12_part_17 : decode cX12_part 17 = .ok (.getfield 23, 3) := by decide +kernel
theorem dX12_part_20 : decode cX12_part 20 = .ok (.goto 10, 3) := by decide +kernel
theorem dX12_part_4 : decode cX12_part 4 = .ok (.aload_n 0, 1) := by decide +kernel
theorem dX12_part_5 : decode cX12_part 5 = .ok (.getfield 148, 3) := by decide +kernel
theorem dX12_part_8 : decode cX12_part 8 = .ok (.goto 22, 3) := by decide +kernel
set_option maxRecDepth 20000 in
theorem iw_k_m_part_X12 : ∀ w ∈ wsX120, w ∈ wsX12_part := by decide +kernel
set_option maxHeartbeats 4000000 in
set_option maxRecDepth 100000 in
theorem k_m_part (l : Launch) (dC : Nat → ClassId) (dI : Nat → Nat → Nat) (mo : Nat) (nw : Nat) (kp : Nat) (ik : Nat) (mr : Nat) (mw : Nat) (mq : Nat) (mz : Nat) (my : Nat) (mb : Nat) (mx : Nat) (mv : Nat) (cm : ClassId) (na : Int32) (sz : Nat) : Met l yX12_part wsX12_part ({ frames := 1, cells := 0, slots := 0, locals := 21 }) (va_Pc [.ref mo, .int na] (fun U => U.heap.size = sz ∧ va_P (dC, dI) vwCl [(mo, .inr (12, [.ref nw, .ref kp, .ref ik, .ref mr, .long 0, .long 1, .ref mw, .long 0, .int 0, .int 0, .long 0, .long 0, .ref mq, .ref mz, .ref my, .int 0, .ref mb, .int 0, .int 0, .int 0, .int 0, .int 0, .ref mx, .ref mv])), (mr, .inl (cm, 3, .inl (fun _ => 0)))] U.heap ∧ va_K (dC, dI) vwCl [(cm, .int)] U ∧ va_D (fun _ => True) [(mo, .inr (12, [.ref nw, .ref kp, .ref ik, .ref mr, .long 0, .long 1, .ref mw, .long 0, .int 0, .int 0, .long 0, .long 0, .ref mq, .ref mz, .ref my, .int 0, .ref mb, .int 0, .int 0, .int 0, .int 0, .int 0, .ref mx, .ref mv])), (mr, .inl (cm, 3, .inl (fun _ => 0)))])) (va_Ql (fun (r : Int64) (_ : Unit) => r = (if na = 0 then 0 else if na = 1 then 1 else (-2))) (fun _ _ => True) (va_A [(mo, .inr (12, [.ref nw, .ref kp, .ref ik, .ref mr, .long 0, .long 1, .ref mw, .long 0, .int 0, .int 0, .long 0, .long 0, .ref mq, .ref mz, .ref my, .int 0, .ref mb, .int 0, .int 0, .int 0, .int 0, .int 0, .ref mx, .ref mv])), (mr, .inl (cm, 3, .inl (fun _ => 0)))] sz)) 0 0 (va_A [(mo, .inr (12, [.ref nw, .ref kp, .ref ik, .ref mr, .long 0, .long 1, .ref mw, .long 0, .int 0, .int 0, .long 0, .long 0, .ref mq, .ref mz, .ref my, .int 0, .ref mb, .int 0, .int 0, .int 0, .int 0, .int 0, .ref mx, .ref mv])), (mr, .inl (cm, 3, .inl (fun _ => 0)))] sz) := by
  refine Met.ofW (cc := cX12_part) (maxL := 2) (ret := (some .long)) (by decide) rfl ?_
  intro p e s m args below meth c s₁ B hml hv
  obtain ⟨rfl, hsz, hP, hK, hD0⟩ := hv
  have hx := B.exec
  have hb := B.bytes
  have hr := B.returns
  have hts := atoms_spec (ws := wsX12_part) B.pre
  have hown : s.vm.findClass RX12 = some m.cls := findClass_of_methodNamed B.named
  have hlocks := B.notSynchronized
  subst hsz
  have hD := hD0.self (sz := s.heap.size)
  generalize hAe : va_A [(mo, .inr (12, [.ref nw, .ref kp, .ref ik, .ref mr, .long 0, .long 1, .ref mw, .long 0, .int 0, .int 0, .long 0, .long 0, .ref mq, .ref mz, .ref my, .int 0, .ref mb, .int 0, .int 0, .int 0, .int 0, .int 0, .ref mx, .ref mv])), (mr, .inl (cm, 3, .inl (fun _ => 0)))] s.heap.size = A at hD ⊢
  have hA : ∀ q : Nat, s.heap.size ≤ q → A q := fun q h => by rw [← hAe]; exact Or.inr h
  have hS : va_S A s.heap s.heap [] := va_S.rf
  have hP : va_P (dC, dI) vwCl [(mo, .inr (12, [.ref nw, .ref kp, .ref ik, .ref mr, .long 0, .long 1, .ref mw, .long 0, .int 0, .int 0, .long 0, .long 0, .ref mq, .ref mz, .ref my, .int 0, .ref mb, .int 0, .int 0, .int 0, .int 0, .int 0, .ref mx, .ref mv])), (mr, .inl (cm, 3, .inl (fun _ => 0)))] s.heap := hP
  have hl := lv_entry ([.ref mo, .int na]) (n := 2) (Nat.le_of_ble_eq_true rfl)
  rw [lg_entry_eq]
  generalize (lg_sl ([.ref mo, .int na]) ++ List.replicate (2 - (lg_sl ([.ref mo, .int na])).length) Slot.unset).toArray = ls at hl ⊢
  have hl : lv_has ls 2 [(0, .ref mo), (1, .int na)] := hl
  refine lv_iload_n hx hb dX12_part_0 rfl (lv_at hl 1 rfl) ?_
  refine lv_if_ne (tgt := 11) hx hb dX12_part_1 (by decide) (fun c_1 => ?_) (fun c_1 => ?_)
  · refine lv_iload_n hx hb dX12_part_11 rfl (lv_at hl 1 rfl) ?_
    refine lv_iconst (v := 1) hx hb dX12_part_12 (by decide) ?_
    refine lv_icmp_ne (tgt := 23) hx hb dX12_part_13 (by decide) (fun c_2 => ?_) (fun c_2 => ?_)
    · refine lv_aload_n hx hb dX12_part_23 rfl (lv_at hl 0 rfl) ?_
      refine lv_bipush (v := (-2)) hx hb dX12_part_24 (by decide) ?_
      have hPc := hP.sub (ws' := [(mo, .inr (12, [.ref nw, .ref kp, .ref ik, .ref mr, .long 0, .long 1, .ref mw, .long 0, .int 0, .int 0, .long 0, .long 0, .ref mq, .ref mz, .ref my, .int 0, .ref mb, .int 0, .int 0, .int 0, .int 0, .int 0, .ref mx, .ref mv])), (mr, .inl (cm, 3, .inl (fun _ => 0)))]) [0, 1] rfl
      have hDc := hD.sub (ws' := [(mo, .inr (12, [.ref nw, .ref kp, .ref ik, .ref mr, .long 0, .long 1, .ref mw, .long 0, .int 0, .int 0, .long 0, .long 0, .ref mq, .ref mz, .ref my, .int 0, .ref mb, .int 0, .int 0, .int 0, .int 0, .int 0, .ref mx, .ref mv])), (mr, .inl (cm, 3, .inl (fun _ => 0)))]) [0, 1] (by decide) rfl
      have hKc := hK.sub (tys' := [(cm, .int)]) [0] rfl
      have hFc := va_free (wc := [(mo, .inr (12, [.ref nw, .ref kp, .ref ik, .ref mr, .long 0, .long 1, .ref mw, .long 0, .int 0, .int 0, .long 0, .long 0, .ref mq, .ref mz, .ref my, .int 0, .ref mb, .int 0, .int 0, .int 0, .int 0, .int 0, .ref mx, .ref mv])), (mr, .inl (cm, 3, .inl (fun _ => 0)))]) hD hS hA [0, 1] rfl
      refine va_calli (va_runV (As := [.int (-2)]) (rest := []) ⟨hx, hb, hml, hown, hts⟩ (k_bad l dC dI mo nw kp ik mr mw mq mz my mb mx mv cm (-2) s.heap.size) (cwV 1 hts gX12_part_X12_bad rfl rfl rfl (by decide +kernel) ⟨Nat.le_of_ble_eq_true rfl, Nat.le_of_ble_eq_true rfl⟩) ⟨fun a U g mk q => by obtain ⟨q0, q1, qP, qK, qD⟩ := q; exact ⟨q0, q1, qP, va_K.moved (u := U) (U := U.calling g mk a) (Vm.Alike.refl U.vm) qK, qD⟩, va_recv hK hP (ci := 12) (q0 := 0) rfl rfl, fun U hU hW => ⟨rfl, by rw [hU], by rw [hU]; exact hPc, va_K.moved hW.alike hKc, hDc.weaken (fun _ _ _ _ => trivial)⟩⟩ rfl rfl hl.1 rfl (lv_room (Nat.le_of_ble_eq_true rfl)) dX12_part_26 ⟨Nat.le_of_ble_eq_true rfl, Nat.le_of_ble_eq_true rfl⟩) hS (fun q _ h => hFc q h) hFc (fun r_3 u_ t H1 locs ht hvm hw_4 hB hz1 hk1 hS => ?_)
      obtain ⟨hP, hD⟩ := va_join (wr := []) (w1 := []) hP hD [0, 1] [] rfl rfl (by decide) (by decide) hk1 hFc tz_P0 tz_D0
      generalize H1 = H at hP hS ⊢
      have hP : va_P (dC, dI) vwCl [] H := hP
      have hD : va_D A [] := hD
      obtain rfl : (-2) = r_3 := hw_4.symm
      refine lv_i2l (v := (-2)) hx hb dX12_part_29 (by decide) ?_
      exact W.lret (v := (-2)) hx hb hr (fun t ht hW => ⟨⟨(-2), (), rfl, ((if_neg c_1).trans (if_neg c_2)).symm, trivial⟩, hS.F ht⟩) hS.2.2 dX12_part_30
    · refine lv_aload_n hx hb dX12_part_16 rfl (lv_at hl 0 rfl) ?_
      refine va_get (D := (dC, dI)) (ci := 12) (v := .long 1) (C := RX12) (T := TX12) (N := 24) hx hb hts iw_k_m_part_X12 hown hK hP 0 rfl rfl 5 (by decide) (hts (.fieldLink RX12 23 "ThriceCountedModel" "below" "J") (by decide +kernel)) (fun _ h9 => h9) rfl dX12_part_17 ?_
      refine lv_goto (tgt := 30) hx hb dX12_part_20 (by decide) ?_
      exact W.lret (v := 1) hx hb hr (fun t ht hW => ⟨⟨1, (), rfl, ((if_neg c_1).trans (if_pos c_2)).symm, trivial⟩, hS.F ht⟩) hS.2.2 dX12_part_30
  · refine lv_aload_n hx hb dX12_part_4 rfl (lv_at hl 0 rfl) ?_
    refine va_get (D := (dC, dI)) (ci := 12) (v := .long 0) (C := RX12) (T := TX12) (N := 24) hx hb hts iw_k_m_part_X12 hown hK hP 0 rfl rfl 4 (by decide) (hts (.fieldLink RX12 148 "ThriceCountedModel" "above" "J") (by decide +kernel)) (fun _ h9 => h9) rfl dX12_part_5 ?_
    refine lv_goto (tgt := 30) hx hb dX12_part_8 (by decide) ?_
    exact W.lret (v := 0) hx hb hr (fun t ht hW => ⟨⟨0, (), rfl, (if_pos c_1).symm, trivial⟩, hS.F ht⟩) hS.2.2 dX12_part_30
set_option maxRecDepth 20000 in
theorem ggX12_from_X12_in : GoodIn wsX12_from wsX12_in := goodIn_r _ [7] (by decide +kernel) (by decide +kernel)
set_option maxRecDepth 20000 in
theorem gX12_from_X12_in : GoodIn wsX12_from (va_wsS RX12 49 yX12_in wsX12_in) := goodIn_app (goodIn_of _ (by decide +kernel)) ggX12_from_X12_in
set_option maxRecDepth 20000 in
theorem ggX12_from_X12_no : GoodIn wsX12_from wsX12_no := goodIn_r _ [16, 12, 17, 18, 19, 20, 21, 22, 23, 24, 25, 26, 27, 28, 29, 30, 31, 32, 33, 34, 35, 36, 37, 38, 39, 40] (by decide +kernel) (by decide +kernel)
set_option maxRecDepth 20000 in
theorem gX12_from_X12_no : GoodIn wsX12_from (wsV RX12 113 RX12 yX12_no wsX12_no) := goodIn_app (goodIn_of _ (by decide +kernel)) ggX12_from_X12_no
set_option maxRecDepth 20000 in
theorem ggX12_from_X12_bad : GoodIn wsX12_from wsX12_bad := goodIn_r _ [11, 12, 17, 18, 19, 20, 21, 22, 23, 24, 25, 26, 27, 28, 29, 30, 31, 32, 33, 34, 35, 36, 37, 38, 39, 40] (by decide +kernel) (by decide +kernel)
set_option maxRecDepth 20000 in
theorem gX12_from_X12_bad : GoodIn wsX12_from (wsV RX12 61 RX12 yX12_bad wsX12_bad) := goodIn_app (goodIn_of _ (by decide +kernel)) ggX12_from_X12_bad
theorem dX12_from_0 : decode cX12_from 0 = .ok (.iload_n 1, 1) := by decide +kernel
theorem dX12_from_1 : decode cX12_from 1 = .ok (.i2l, 1) := by decide +kernel
theorem dX12_from_2 : decode cX12_from 2 = .ok (.lconst 0, 1) := by decide +kernel
theorem dX12_from_3 : decode cX12_from 3 = .ok (.lconst 1, 1) := by decide +kernel
theorem dX12_from_4 : decode cX12_from 4 = .ok (.invokestatic 49, 3) := by decide +kernel
theorem dX12_from_7 : decode cX12_from 7 = .ok (.ifCond .ne 10, 3) := by decide +kernel
theorem dX12_from_17 : decode cX12_from 17 = .ok (.aload_n 0, 1) := by decide +kernel
theorem dX12_from_18 : decode cX12_from 18 = .ok (.getfield 16, 3) := by decide +kernel
theorem dX12_from_21 : decode cX12_from 21 = .ok (.iload_n 1, 1) := by decide +kernel
theorem dX12_from_22 : decode cX12_from 22 = .ok (.baload, 1) := by decide +kernel
theorem dX12_from_23 : decode cX12_from 23 = .ok (.ifCond .ne 8, 3) := by decide +kernel
theorem dX12_from_26 : decode cX12_from 26 = .ok (.aload_n 0, 1) := by decide +kernel
theorem dX12_from_27 : decode cX12_from 27 = .ok (.invokevirtual 113, 3) := by decide +kernel
theorem dX12_from_30 : decode cX12_from 30 = .ok (.ireturn, 1) := by decide +kernel
theorem dX12_from_10 : decode cX12_from 10 = .ok (.aload_n 0, 1) := by decide +kernel
theorem dX12_from_11 : decode cX12_from 11 = .ok (.bipush (-2), 2) := by decide +kernel
theorem dX12_from_13 : decode cX12_from 13 = .ok (.invokevirtual 61, 3) := by decide +kernel
theorem dX12_from_16 : decode cX12_from 16 = .ok (.ireturn, 1) := by decide +kernel
set_option maxRecDepth 20000 in
theorem iw_k_m_from_X12 : ∀ w ∈ wsX120, w ∈ wsX12_from := by decide +kernel
set_option maxHeartbeats 4000000 in
set_option maxRecDepth 100000 in
theorem k_m_from (l : Launch) (dC : Nat → ClassId) (dI : Nat → Nat → Nat) (mo : Nat) (nw : Nat) (kp : Nat) (ik : Nat) (mr : Nat) (mw : Nat) (mq : Nat) (mz : Nat) (my : Nat) (mb : Nat) (mx : Nat) (mv : Nat) (ck : ClassId) (cm : ClassId) (na : Int32) (sz : Nat) : Met l yX12_from wsX12_from ({ frames := 1, cells := 0, slots := 0, locals := 25 }) (va_Pc [.ref mo, .int na] (fun U => U.heap.size = sz ∧ va_P (dC, dI) vwCl [(mo, .inr (12, [.ref nw, .ref kp, .ref ik, .ref mr, .long 0, .long 1, .ref mw, .long 0, .int 0, .int 0, .long 0, .long 0, .ref mq, .ref mz, .ref my, .int 0, .ref mb, .int 0, .int 0, .int 0, .int 0, .int 0, .ref mx, .ref mv])), (ik, .inl (ck, 2, .inl (fun _ => 0))), (mr, .inl (cm, 3, .inl (fun _ => 0)))] U.heap ∧ va_K (dC, dI) vwCl [(ck, .boolean), (cm, .int)] U ∧ va_D (fun _ => True) [(mo, .inr (12, [.ref nw, .ref kp, .ref ik, .ref mr, .long 0, .long 1, .ref mw, .long 0, .int 0, .int 0, .long 0, .long 0, .ref mq, .ref mz, .ref my, .int 0, .ref mb, .int 0, .int 0, .int 0, .int 0, .int 0, .ref mx, .ref mv])), (ik, .inl (ck, 2, .inl (fun _ => 0))), (mr, .inl (cm, 3, .inl (fun _ => 0)))])) (va_Qi (fun (r : Int32) (_ : Unit) => r = (if 0 ≤ na ∧ na ≤ 1 then (-3) else (-2))) (fun _ _ => True) (va_A [(mo, .inr (12, [.ref nw, .ref kp, .ref ik, .ref mr, .long 0, .long 1, .ref mw, .long 0, .int 0, .int 0, .long 0, .long 0, .ref mq, .ref mz, .ref my, .int 0, .ref mb, .int 0, .int 0, .int 0, .int 0, .int 0, .ref mx, .ref mv])), (ik, .inl (ck, 2, .inl (fun _ => 0))), (mr, .inl (cm, 3, .inl (fun _ => 0)))] sz)) 0 0 (va_A [(mo, .inr (12, [.ref nw, .ref kp, .ref ik, .ref mr, .long 0, .long 1, .ref mw, .long 0, .int 0, .int 0, .long 0, .long 0, .ref mq, .ref mz, .ref my, .int 0, .ref mb, .int 0, .int 0, .int 0, .int 0, .int 0, .ref mx, .ref mv])), (ik, .inl (ck, 2, .inl (fun _ => 0))), (mr, .inl (cm, 3, .inl (fun _ => 0)))] sz) := by
  refine Met.ofW (cc := cX12_from) (maxL := 3) (ret := (some .int)) (by decide) rfl ?_
  intro p e s m args below meth c s₁ B hml hv
  obtain ⟨rfl, hsz, hP, hK, hD0⟩ := hv
  have hx := B.exec
  have hb := B.bytes
  have hr := B.returns
  have hts := atoms_spec (ws := wsX12_from) B.pre
  have hown : s.vm.findClass RX12 = some m.cls := findClass_of_methodNamed B.named
  have hlocks := B.notSynchronized
  subst hsz
  have hD := hD0.self (sz := s.heap.size)
  generalize hAe : va_A [(mo, .inr (12, [.ref nw, .ref kp, .ref ik, .ref mr, .long 0, .long 1, .ref mw, .long 0, .int 0, .int 0, .long 0, .long 0, .ref mq, .ref mz, .ref my, .int 0, .ref mb, .int 0, .int 0, .int 0, .int 0, .int 0, .ref mx, .ref mv])), (ik, .inl (ck, 2, .inl (fun _ => 0))), (mr, .inl (cm, 3, .inl (fun _ => 0)))] s.heap.size = A at hD ⊢
  have hA : ∀ q : Nat, s.heap.size ≤ q → A q := fun q h => by rw [← hAe]; exact Or.inr h
  have hS : va_S A s.heap s.heap [] := va_S.rf
  have hP : va_P (dC, dI) vwCl [(mo, .inr (12, [.ref nw, .ref kp, .ref ik, .ref mr, .long 0, .long 1, .ref mw, .long 0, .int 0, .int 0, .long 0, .long 0, .ref mq, .ref mz, .ref my, .int 0, .ref mb, .int 0, .int 0, .int 0, .int 0, .int 0, .ref mx, .ref mv])), (ik, .inl (ck, 2, .inl (fun _ => 0))), (mr, .inl (cm, 3, .inl (fun _ => 0)))] s.heap := hP
  have hl := lv_entry ([.ref mo, .int na]) (n := 3) (Nat.le_of_ble_eq_true rfl)
  rw [lg_entry_eq]
  generalize (lg_sl ([.ref mo, .int na]) ++ List.replicate (3 - (lg_sl ([.ref mo, .int na])).length) Slot.unset).toArray = ls at hl ⊢
  have hl : lv_has ls 3 [(0, .ref mo), (1, .int na)] := hl
  refine lv_iload_n hx hb dX12_from_0 rfl (lv_at hl 1 rfl) ?_
  refine lv_i2l (v := na.toInt64) hx hb dX12_from_1 rfl ?_
  refine lv_lconst (v := 0) hx hb dX12_from_2 (by decide) ?_
  refine lv_lconst (v := 1) hx hb dX12_from_3 (by decide) ?_
  refine vp_callSi (va_Run.run (va_runS (As := [.long na.toInt64, .long 0, .long 1]) (rest := []) ⟨hx, hb, hml, hown, hts⟩ (k_in l dC dI na.toInt64 0 1) (va_cwS 3 hts gX12_from_X12_in rfl rfl rfl (by decide +kernel) ⟨Nat.le_of_ble_eq_true rfl, Nat.le_of_ble_eq_true rfl⟩) ⟨fun a U g mk q => ⟨q.1, trivial⟩, fun U hU hW => ⟨rfl, trivial⟩⟩ rfl rfl hl.1 rfl (lv_room (Nat.le_of_ble_eq_true rfl)) dX12_from_4 ⟨Nat.le_of_ble_eq_true rfl, Nat.le_of_ble_eq_true rfl⟩)) (fun r_1 hw_2 => ?_)
  by_cases hc_3 : 0 ≤ na ∧ na ≤ 1
  · obtain rfl : 1 = r_1 := (hw_2.trans (if_pos ((tz_in64 (by first | rfl | decide) rfl (by first | rfl | decide)).mpr hc_3))).symm
    refine lv_if_ne (tgt := 17) hx hb dX12_from_7 (by decide) (fun c_4 => ?_) (fun c_4 => ?_)
    · refine lv_aload_n hx hb dX12_from_17 rfl (lv_at hl 0 rfl) ?_
      refine va_get (D := (dC, dI)) (ci := 12) (v := .ref ik) (C := RX12) (T := TX12) (N := 24) hx hb hts iw_k_m_from_X12 hown hK hP 0 rfl rfl 2 (by decide) (hts (.fieldLink RX12 16 "ThriceCountedModel" "isKept" "[Z") (by decide +kernel)) (fun _ h9 => h9) rfl dX12_from_18 ?_
      refine lv_iload_n hx hb dX12_from_21 rfl (lv_at hl 1 rfl) ?_
      refine va_zald hx hb hK hP 1 0 rfl rfl (tz_inb hc_3 (by decide)) dX12_from_22 ?_
      refine tz_i 0 rfl ?_
      refine lv_if_ne (tgt := 31) hx hb dX12_from_23 (by decide) (fun c_5 => ?_) (fun c_5 => ?_)
      · exact absurd c_5 (by decide)
      · refine lv_aload_n hx hb dX12_from_26 rfl (lv_at hl 0 rfl) ?_
        have hPc := hP.sub (ws' := [(mo, .inr (12, [.ref nw, .ref kp, .ref ik, .ref mr, .long 0, .long 1, .ref mw, .long 0, .int 0, .int 0, .long 0, .long 0, .ref mq, .ref mz, .ref my, .int 0, .ref mb, .int 0, .int 0, .int 0, .int 0, .int 0, .ref mx, .ref mv])), (mr, .inl (cm, 3, .inl (fun _ => 0)))]) [0, 2] rfl
        have hDc := hD.sub (ws' := [(mo, .inr (12, [.ref nw, .ref kp, .ref ik, .ref mr, .long 0, .long 1, .ref mw, .long 0, .int 0, .int 0, .long 0, .long 0, .ref mq, .ref mz, .ref my, .int 0, .ref mb, .int 0, .int 0, .int 0, .int 0, .int 0, .ref mx, .ref mv])), (mr, .inl (cm, 3, .inl (fun _ => 0)))]) [0, 2] (by decide) rfl
        have hKc := hK.sub (tys' := [(cm, .int)]) [1] rfl
        have hFc := va_free (wc := [(mo, .inr (12, [.ref nw, .ref kp, .ref ik, .ref mr, .long 0, .long 1, .ref mw, .long 0, .int 0, .int 0, .long 0, .long 0, .ref mq, .ref mz, .ref my, .int 0, .ref mb, .int 0, .int 0, .int 0, .int 0, .int 0, .ref mx, .ref mv])), (mr, .inl (cm, 3, .inl (fun _ => 0)))]) hD hS hA [0, 2] rfl
        refine va_calli (va_runV (As := []) (rest := []) ⟨hx, hb, hml, hown, hts⟩ (k_no l dC dI mo nw kp ik mr mw mq mz my mb mx mv cm s.heap.size) (cwV 0 hts gX12_from_X12_no rfl rfl rfl (by decide +kernel) ⟨Nat.le_of_ble_eq_true rfl, Nat.le_of_ble_eq_true rfl⟩) ⟨fun a U g mk q => by obtain ⟨q0, q1, qP, qK, qD⟩ := q; exact ⟨q0, q1, qP, va_K.moved (u := U) (U := U.calling g mk a) (Vm.Alike.refl U.vm) qK, qD⟩, va_recv hK hP (ci := 12) (q0 := 0) rfl rfl, fun U hU hW => ⟨rfl, by rw [hU], by rw [hU]; exact hPc, va_K.moved hW.alike hKc, hDc.weaken (fun _ _ _ _ => trivial)⟩⟩ rfl rfl hl.1 rfl (lv_room (Nat.le_of_ble_eq_true rfl)) dX12_from_27 ⟨Nat.le_of_ble_eq_true rfl, Nat.le_of_ble_eq_true rfl⟩) hS (fun q _ h => hFc q h) hFc (fun r_6 u_ t H1 locs ht hvm hw_7 hB hz1 hk1 hS => ?_)
        obtain ⟨hP, hD⟩ := va_join (wr := [(ik, .inl (ck, 2, .inl (fun _ => 0)))]) (w1 := []) hP hD [0, 2] [1] rfl rfl (by decide) (by decide) hk1 hFc tz_P0 tz_D0
        generalize H1 = H at hP hS ⊢
        have hP : va_P (dC, dI) vwCl [(ik, .inl (ck, 2, .inl (fun _ => 0)))] H := hP
        have hD : va_D A [(ik, .inl (ck, 2, .inl (fun _ => 0)))] := hD
        obtain rfl : (-3) = r_6 := hw_7.symm
        exact W.iret (v := (-3)) hx hb hr (fun t ht hW => ⟨⟨(-3), (), rfl, (if_pos hc_3).symm, trivial⟩, hS.F ht⟩) hS.2.2 dX12_from_30
    · exact absurd c_4 (by decide)
  · obtain rfl : 0 = r_1 := (hw_2.trans (if_neg (fun z => hc_3 ((tz_in64 (by first | rfl | decide) rfl (by first | rfl | decide)).mp z)))).symm
    refine lv_if_ne (tgt := 17) hx hb dX12_from_7 (by decide) (fun c_8 => ?_) (fun c_8 => ?_)
    · exact absurd c_8 (by decide)
    · refine lv_aload_n hx hb dX12_from_10 rfl (lv_at hl 0 rfl) ?_
      refine lv_bipush (v := (-2)) hx hb dX12_from_11 (by decide) ?_
      have hPc := hP.sub (ws' := [(mo, .inr (12, [.ref nw, .ref kp, .ref ik, .ref mr, .long 0, .long 1, .ref mw, .long 0, .int 0, .int 0, .long 0, .long 0, .ref mq, .ref mz, .ref my, .int 0, .ref mb, .int 0, .int 0, .int 0, .int 0, .int 0, .ref mx, .ref mv])), (mr, .inl (cm, 3, .inl (fun _ => 0)))]) [0, 2] rfl
      have hDc := hD.sub (ws' := [(mo, .inr (12, [.ref nw, .ref kp, .ref ik, .ref mr, .long 0, .long 1, .ref mw, .long 0, .int 0, .int 0, .long 0, .long 0, .ref mq, .ref mz, .ref my, .int 0, .ref mb, .int 0, .int 0, .int 0, .int 0, .int 0, .ref mx, .ref mv])), (mr, .inl (cm, 3, .inl (fun _ => 0)))]) [0, 2] (by decide) rfl
      have hKc := hK.sub (tys' := [(cm, .int)]) [1] rfl
      have hFc := va_free (wc := [(mo, .inr (12, [.ref nw, .ref kp, .ref ik, .ref mr, .long 0, .long 1, .ref mw, .long 0, .int 0, .int 0, .long 0, .long 0, .ref mq, .ref mz, .ref my, .int 0, .ref mb, .int 0, .int 0, .int 0, .int 0, .int 0, .ref mx, .ref mv])), (mr, .inl (cm, 3, .inl (fun _ => 0)))]) hD hS hA [0, 2] rfl
      refine va_calli (va_runV (As := [.int (-2)]) (rest := []) ⟨hx, hb, hml, hown, hts⟩ (k_bad l dC dI mo nw kp ik mr mw mq mz my mb mx mv cm (-2) s.heap.size) (cwV 1 hts gX12_from_X12_bad rfl rfl rfl (by decide +kernel) ⟨Nat.le_of_ble_eq_true rfl, Nat.le_of_ble_eq_true rfl⟩) ⟨fun a U g mk q => by obtain ⟨q0, q1, qP, qK, qD⟩ := q; exact ⟨q0, q1, qP, va_K.moved (u := U) (U := U.calling g mk a) (Vm.Alike.refl U.vm) qK, qD⟩, va_recv hK hP (ci := 12) (q0 := 0) rfl rfl, fun U hU hW => ⟨rfl, by rw [hU], by rw [hU]; exact hPc, va_K.moved hW.alike hKc, hDc.weaken (fun _ _ _ _ => trivial)⟩⟩ rfl rfl hl.1 rfl (lv_room (Nat.le_of_ble_eq_true rfl)) dX12_from_13 ⟨Nat.le_of_ble_eq_true rfl, Nat.le_of_ble_eq_true rfl⟩) hS (fun q _ h => hFc q h) hFc (fun r_9 u_ t H1 locs ht hvm hw_10 hB hz1 hk1 hS => ?_)
      obtain ⟨hP, hD⟩ := va_join (wr := [(ik, .inl (ck, 2, .inl (fun _ => 0)))]) (w1 := []) hP hD [0, 2] [1] rfl rfl (by decide) (by decide) hk1 hFc tz_P0 tz_D0
      generalize H1 = H at hP hS ⊢
      have hP : va_P (dC, dI) vwCl [(ik, .inl (ck, 2, .inl (fun _ => 0)))] H := hP
      have hD : va_D A [(ik, .inl (ck, 2, .inl (fun _ => 0)))] := hD
      obtain rfl : (-2) = r_9 := hw_10.symm
      exact W.iret (v := (-2)) hx hb hr (fun t ht hW => ⟨⟨(-2), (), rfl, (if_neg hc_3).symm, trivial⟩, hS.F ht⟩) hS.2.2 dX12_from_16
set_option maxRecDepth 20000 in
theorem ggX12_status_X12_in : GoodIn wsX12_status wsX12_in := goodIn_r _ [6] (by decide +kernel) (by decide +kernel)
set_option maxRecDepth 20000 in
theorem gX12_status_X12_in : GoodIn wsX12_status (va_wsS RX12 49 yX12_in wsX12_in) := goodIn_app (goodIn_of _ (by decide +kernel)) ggX12_status_X12_in
set_option maxRecDepth 20000 in
theorem ggX12_status_X12_bad : GoodIn wsX12_status wsX12_bad := goodIn_r _ [10, 2, 11, 12, 13, 14, 15, 16, 17, 18, 19, 20, 21, 22, 23, 24, 25, 26, 27, 28, 29, 30, 31, 32, 33, 34] (by decide +kernel) (by decide +kernel)
set_option maxRecDepth 20000 in
theorem gX12_status_X12_bad : GoodIn wsX12_status (wsV RX12 61 RX12 yX12_bad wsX12_bad) := goodIn_app (goodIn_of _ (by decide +kernel)) ggX12_status_X12_bad
theorem dX12_status_0 : decode cX12_status 0 = .ok (.iload_n 1, 1) := by decide +kernel
theorem dX12_status_1 : decode cX12_status 1 = .ok (.i2l, 1) := by decide +kernel
theorem dX12_status_2 : decode cX12_status 2 = .ok (.lconst 0, 1) := by decide +kernel
theorem dX12_status_3 : decode cX12_status 3 = .ok (.ldc2_w 241, 3) := by decide +kernel
theorem dX12_status_6 : decode cX12_status 6 = .ok (.invokestatic 49, 3) := by decide +kernel
theorem dX12_status_9 : decode cX12_status 9 = .ok (.ifCond .eq 12, 3) := by decide +kernel
theorem dX12_status_12 : decode cX12_status 12 = .ok (.aload_n 0, 1) := by decide +kernel
theorem dX12_status_13 : decode cX12_status 13 = .ok (.getfield 20, 3) := by decide +kernel
theorem dX12_status_16 : decode cX12_status 16 = .ok (.iload_n 1, 1) := by decide +kernel
theorem dX12_status_17 : decode cX12_status 17 = .ok (.iaload, 1) := by decide +kernel
theorem dX12_status_18 : decode cX12_status 18 = .ok (.goto 8, 3) := by decide +kernel
theorem dX12_status_26 : decode cX12_status 26 = .ok (.ireturn, 1) := by decide +kernel
theorem dX12_status_21 : decode cX12_status 21 = .ok (.aload_n 0, 1) := by decide +kernel
theorem dX12_status_22 : decode cX12_status 22 = .ok (.iconst (-1), 1) := by decide +kernel
theorem dX12_status_23 : decode cX12_status 23 = .ok (.invokevirtual 61, 3) := by decide +kernel
set_option maxRecDepth 20000 in
theorem iw_k_m_status_X12 : ∀ w ∈ wsX120, w ∈ wsX12_status := by decide +kernel
set_option maxHeartbeats 4000000 in
set_option maxRecDepth 100000 in
theorem k_m_status (l : Launch) (dC : Nat → ClassId) (dI : Nat → Nat → Nat) (mo : Nat) (nw : Nat) (kp : Nat) (ik : Nat) (mr : Nat) (mw : Nat) (mq : Nat) (mz : Nat) (my : Nat) (mb : Nat) (mx : Nat) (mv : Nat) (cm : ClassId) (na : Int32) (sz : Nat) : Met l yX12_status wsX12_status ({ frames := 1, cells := 0, slots := 0, locals := 25 }) (va_Pc [.ref mo, .int na] (fun U => U.heap.size = sz ∧ va_P (dC, dI) vwCl [(mo, .inr (12, [.ref nw, .ref kp, .ref ik, .ref mr, .long 0, .long 1, .ref mw, .long 0, .int 0, .int 0, .long 0, .long 0, .ref mq, .ref mz, .ref my, .int 0, .ref mb, .int 0, .int 0, .int 0, .int 0, .int 0, .ref mx, .ref mv])), (mr, .inl (cm, 3, .inl (fun _ => 0)))] U.heap ∧ va_K (dC, dI) vwCl [(cm, .int)] U ∧ va_D (fun _ => True) [(mo, .inr (12, [.ref nw, .ref kp, .ref ik, .ref mr, .long 0, .long 1, .ref mw, .long 0, .int 0, .int 0, .long 0, .long 0, .ref mq, .ref mz, .ref my, .int 0, .ref mb, .int 0, .int 0, .int 0, .int 0, .int 0, .ref mx, .ref mv])), (mr, .inl (cm, 3, .inl (fun _ => 0)))])) (va_Qi (fun (r : Int32) (_ : Unit) => r = (if 0 ≤ na ∧ na ≤ 2 then 0 else (-1))) (fun _ _ => True) (va_A [(mo, .inr (12, [.ref nw, .ref kp, .ref ik, .ref mr, .long 0, .long 1, .ref mw, .long 0, .int 0, .int 0, .long 0, .long 0, .ref mq, .ref mz, .ref my, .int 0, .ref mb, .int 0, .int 0, .int 0, .int 0, .int 0, .ref mx, .ref mv])), (mr, .inl (cm, 3, .inl (fun _ => 0)))] sz)) 0 0 (va_A [(mo, .inr (12, [.ref nw, .ref kp, .ref ik, .ref mr, .long 0, .long 1, .ref mw, .long 0, .int 0, .int 0, .long 0, .long 0, .ref mq, .ref mz, .ref my, .int 0, .ref mb, .int 0, .int 0, .int 0, .int 0, .int 0, .ref mx, .ref mv])), (mr, .inl (cm, 3, .inl (fun _ => 0)))] sz) := by
  refine Met.ofW (cc := cX12_status) (maxL := 2) (ret := (some .int)) (by decide) rfl ?_
  intro p e s m args below meth c s₁ B hml hv
  obtain ⟨rfl, hsz, hP, hK, hD0⟩ := hv
  have hx := B.exec
  have hb := B.bytes
  have hr := B.returns
  have hts := atoms_spec (ws := wsX12_status) B.pre
  have hown : s.vm.findClass RX12 = some m.cls := findClass_of_methodNamed B.named
  have hlocks := B.notSynchronized
  subst hsz
  have hD := hD0.self (sz := s.heap.size)
  generalize hAe : va_A [(mo, .inr (12, [.ref nw, .ref kp, .ref ik, .ref mr, .long 0, .long 1, .ref mw, .long 0, .int 0, .int 0, .long 0, .long 0, .ref mq, .ref mz, .ref my, .int 0, .ref mb, .int 0, .int 0, .int 0, .int 0, .int 0, .ref mx, .ref mv])), (mr, .inl (cm, 3, .inl (fun _ => 0)))] s.heap.size = A at hD ⊢
  have hA : ∀ q : Nat, s.heap.size ≤ q → A q := fun q h => by rw [← hAe]; exact Or.inr h
  have hS : va_S A s.heap s.heap [] := va_S.rf
  have hP : va_P (dC, dI) vwCl [(mo, .inr (12, [.ref nw, .ref kp, .ref ik, .ref mr, .long 0, .long 1, .ref mw, .long 0, .int 0, .int 0, .long 0, .long 0, .ref mq, .ref mz, .ref my, .int 0, .ref mb, .int 0, .int 0, .int 0, .int 0, .int 0, .ref mx, .ref mv])), (mr, .inl (cm, 3, .inl (fun _ => 0)))] s.heap := hP
  have hl := lv_entry ([.ref mo, .int na]) (n := 2) (Nat.le_of_ble_eq_true rfl)
  rw [lg_entry_eq]
  generalize (lg_sl ([.ref mo, .int na]) ++ List.replicate (2 - (lg_sl ([.ref mo, .int na])).length) Slot.unset).toArray = ls at hl ⊢
  have hl : lv_has ls 2 [(0, .ref mo), (1, .int na)] := hl
  refine lv_iload_n hx hb dX12_status_0 rfl (lv_at hl 1 rfl) ?_
  refine lv_i2l (v := na.toInt64) hx hb dX12_status_1 rfl ?_
  refine lv_lconst (v := 0) hx hb dX12_status_2 (by decide) ?_
  refine lv_ldc2 hx hb hown (hts (.constantLong RX12 241 (2)) (by decide +kernel)) dX12_status_3 ?_
  refine vp_callSi (va_Run.run (va_runS (As := [.long na.toInt64, .long 0, .long 2]) (rest := []) ⟨hx, hb, hml, hown, hts⟩ (k_in l dC dI na.toInt64 0 2) (va_cwS 3 hts gX12_status_X12_in rfl rfl rfl (by decide +kernel) ⟨Nat.le_of_ble_eq_true rfl, Nat.le_of_ble_eq_true rfl⟩) ⟨fun a U g mk q => ⟨q.1, trivial⟩, fun U hU hW => ⟨rfl, trivial⟩⟩ rfl rfl hl.1 rfl (lv_room (Nat.le_of_ble_eq_true rfl)) dX12_status_6 ⟨Nat.le_of_ble_eq_true rfl, Nat.le_of_ble_eq_true rfl⟩)) (fun r_1 hw_2 => ?_)
  by_cases hc_3 : 0 ≤ na ∧ na ≤ 2
  · obtain rfl : 1 = r_1 := (hw_2.trans (if_pos ((tz_in64 (by first | rfl | decide) rfl (by first | rfl | decide)).mpr hc_3))).symm
    refine lv_if_eq (tgt := 21) hx hb dX12_status_9 (by decide) (fun c_4 => ?_) (fun c_4 => ?_)
    · exact absurd c_4 (by decide)
    · refine lv_aload_n hx hb dX12_status_12 rfl (lv_at hl 0 rfl) ?_
      refine va_get (D := (dC, dI)) (ci := 12) (v := .ref mr) (C := RX12) (T := TX12) (N := 24) hx hb hts iw_k_m_status_X12 hown hK hP 0 rfl rfl 3 (by decide) (hts (.fieldLink RX12 20 "ThriceCountedModel" "refused" "[I") (by decide +kernel)) (fun _ h9 => h9) rfl dX12_status_13 ?_
      refine lv_iload_n hx hb dX12_status_16 rfl (lv_at hl 1 rfl) ?_
      refine va_iald hx hb hK hP 1 0 rfl rfl (tz_inb hc_3 (by decide)) dX12_status_17 ?_
      refine tz_i 0 rfl ?_
      refine lv_goto (tgt := 26) hx hb dX12_status_18 (by decide) ?_
      exact W.iret (v := 0) hx hb hr (fun t ht hW => ⟨⟨0, (), rfl, (if_pos hc_3).symm, trivial⟩, hS.F ht⟩) hS.2.2 dX12_status_26
  · obtain rfl : 0 = r_1 := (hw_2.trans (if_neg (fun z => hc_3 ((tz_in64 (by first | rfl | decide) rfl (by first | rfl | decide)).mp z)))).symm
    refine lv_if_eq (tgt := 21) hx hb dX12_status_9 (by decide) (fun c_5 => ?_) (fun c_5 => ?_)
    · refine lv_aload_n hx hb dX12_status_21 rfl (lv_at hl 0 rfl) ?_
      refine lv_iconst (v := (-1)) hx hb dX12_status_22 (by decide) ?_
      have hPc := hP.sub (ws' := [(mo, .inr (12, [.ref nw, .ref kp, .ref ik, .ref mr, .long 0, .long 1, .ref mw, .long 0, .int 0, .int 0, .long 0, .long 0, .ref mq, .ref mz, .ref my, .int 0, .ref mb, .int 0, .int 0, .int 0, .int 0, .int 0, .ref mx, .ref mv])), (mr, .inl (cm, 3, .inl (fun _ => 0)))]) [0, 1] rfl
      have hDc := hD.sub (ws' := [(mo, .inr (12, [.ref nw, .ref kp, .ref ik, .ref mr, .long 0, .long 1, .ref mw, .long 0, .int 0, .int 0, .long 0, .long 0, .ref mq, .ref mz, .ref my, .int 0, .ref mb, .int 0, .int 0, .int 0, .int 0, .int 0, .ref mx, .ref mv])), (mr, .inl (cm, 3, .inl (fun _ => 0)))]) [0, 1] (by decide) rfl
      have hKc := hK.sub (tys' := [(cm, .int)]) [0] rfl
      have hFc := va_free (wc := [(mo, .inr (12, [.ref nw, .ref kp, .ref ik, .ref mr, .long 0, .long 1, .ref mw, .long 0, .int 0, .int 0, .long 0, .long 0, .ref mq, .ref mz, .ref my, .int 0, .ref mb, .int 0, .int 0, .int 0, .int 0, .int 0, .ref mx, .ref mv])), (mr, .inl (cm, 3, .inl (fun _ => 0)))]) hD hS hA [0, 1] rfl
      refine va_calli (va_runV (As := [.int (-1)]) (rest := []) ⟨hx, hb, hml, hown, hts⟩ (k_bad l dC dI mo nw kp ik mr mw mq mz my mb mx mv cm (-1) s.heap.size) (cwV 1 hts gX12_status_X12_bad rfl rfl rfl (by decide +kernel) ⟨Nat.le_of_ble_eq_true rfl, Nat.le_of_ble_eq_true rfl⟩) ⟨fun a U g mk q => by obtain ⟨q0, q1, qP, qK, qD⟩ := q; exact ⟨q0, q1, qP, va_K.moved (u := U) (U := U.calling g mk a) (Vm.Alike.refl U.vm) qK, qD⟩, va_recv hK hP (ci := 12) (q0 := 0) rfl rfl, fun U hU hW => ⟨rfl, by rw [hU], by rw [hU]; exact hPc, va_K.moved hW.alike hKc, hDc.weaken (fun _ _ _ _ => trivial)⟩⟩ rfl rfl hl.1 rfl (lv_room (Nat.le_of_ble_eq_true rfl)) dX12_status_23 ⟨Nat.le_of_ble_eq_true rfl, Nat.le_of_ble_eq_true rfl⟩) hS (fun q _ h => hFc q h) hFc (fun r_6 u_ t H1 locs ht hvm hw_7 hB hz1 hk1 hS => ?_)
      obtain ⟨hP, hD⟩ := va_join (wr := []) (w1 := []) hP hD [0, 1] [] rfl rfl (by decide) (by decide) hk1 hFc tz_P0 tz_D0
      generalize H1 = H at hP hS ⊢
      have hP : va_P (dC, dI) vwCl [] H := hP
      have hD : va_D A [] := hD
      obtain rfl : (-1) = r_6 := hw_7.symm
      exact W.iret (v := (-1)) hx hb hr (fun t ht hW => ⟨⟨(-1), (), rfl, (if_neg hc_3).symm, trivial⟩, hS.F ht⟩) hS.2.2 dX12_status_26
    · exact absurd c_5 (by decide)
set_option maxRecDepth 20000 in
theorem ggX12_count_X12_in : GoodIn wsX12_count wsX12_in := goodIn_r _ [5] (by decide +kernel) (by decide +kernel)
set_option maxRecDepth 20000 in
theorem gX12_count_X12_in : GoodIn wsX12_count (va_wsS RX12 49 yX12_in wsX12_in) := goodIn_app (goodIn_of _ (by decide +kernel)) ggX12_count_X12_in
set_option maxRecDepth 20000 in
theorem ggX12_count_X12_counted : GoodIn wsX12_count wsX12_counted := goodIn_r _ [9, 10, 11, 17, 18, 19, 20, 21, 22, 23, 24, 25, 26, 27, 28, 29, 30, 31, 32, 33, 34, 35, 36, 37, 38, 39, 40] (by decide +kernel) (by decide +kernel)
set_option maxRecDepth 20000 in
theorem gX12_count_X12_counted : GoodIn wsX12_count (wsV RX12 313 RX12 yX12_counted wsX12_counted) := goodIn_app (goodIn_of _ (by decide +kernel)) ggX12_count_X12_counted
set_option maxRecDepth 20000 in
theorem ggX12_count_X12_bad : GoodIn wsX12_count wsX12_bad := goodIn_r _ [15, 16, 17, 18, 19, 20, 21, 22, 23, 24, 25, 26, 27, 28, 29, 30, 31, 32, 33, 34, 35, 36, 37, 38, 39, 40] (by decide +kernel) (by decide +kernel)
set_option maxRecDepth 20000 in
theorem gX12_count_X12_bad : GoodIn wsX12_count (wsV RX12 61 RX12 yX12_bad wsX12_bad) := goodIn_app (goodIn_of _ (by decide +kernel)) ggX12_count_X12_bad
theorem dX12_count_0 : decode cX12_count 0 = .ok (.iload_n 1, 1) := by decide +kernel
theorem dX12_count_1 : decode cX12_count 1 = .ok (.i2l, 1) := by decide +kernel
theorem dX12_count_2 : decode cX12_count 2 = .ok (.lconst 0, 1) := by decide +kernel
theorem dX12_count_3 : decode cX12_count 3 = .ok (.ldc2_w 53, 3) := by decide +kernel
theorem dX12_count_6 : decode cX12_count 6 = .ok (.invokestatic 49, 3) := by decide +kernel
theorem dX12_count_9 : decode cX12_count 9 = .ok (.ifCond .eq 11, 3) := by decide +kernel
theorem dX12_count_12 : decode cX12_count 12 = .ok (.aload_n 0, 1) := by decide +kernel
theorem dX12_count_13 : decode cX12_count 13 = .ok (.iload_n 1, 1) := by decide +kernel
theorem dX12_count_14 : decode cX12_count 14 = .ok (.invokevirtual 313, 3) := by decide +kernel
theorem dX12_count_17 : decode cX12_count 17 = .ok (.goto 9, 3) := by decide +kernel
theorem dX12_count_26 : decode cX12_count 26 = .ok (.ireturn, 1) := by decide +kernel
theorem dX12_count_20 : decode cX12_count 20 = .ok (.aload_n 0, 1) := by decide +kernel
theorem dX12_count_21 : decode cX12_count 21 = .ok (.bipush (-2), 2) := by decide +kernel
theorem dX12_count_23 : decode cX12_count 23 = .ok (.invokevirtual 61, 3) := by decide +kernel
set_option maxHeartbeats 4000000 in
set_option maxRecDepth 100000 in
theorem k_m_count (l : Launch) (dC : Nat → ClassId) (dI : Nat → Nat → Nat) (mo : Nat) (nw : Nat) (kp : Nat) (ik : Nat) (mr : Nat) (mw : Nat) (mq : Nat) (mz : Nat) (my : Nat) (mb : Nat) (mx : Nat) (mv : Nat) (cn : ClassId) (cm : ClassId) (na : Int32) (sz : Nat) : Met l yX12_count wsX12_count ({ frames := 1, cells := 0, slots := 0, locals := 25 }) (va_Pc [.ref mo, .int na] (fun U => U.heap.size = sz ∧ va_P (dC, dI) vwCl [(mo, .inr (12, [.ref nw, .ref kp, .ref ik, .ref mr, .long 0, .long 1, .ref mw, .long 0, .int 0, .int 0, .long 0, .long 0, .ref mq, .ref mz, .ref my, .int 0, .ref mb, .int 0, .int 0, .int 0, .int 0, .int 0, .ref mx, .ref mv])), (nw, .inl (cn, 350, .inl (fun _ => 0))), (mr, .inl (cm, 3, .inl (fun _ => 0)))] U.heap ∧ va_K (dC, dI) vwCl [(cn, .int), (cm, .int)] U ∧ va_D (fun _ => True) [(mo, .inr (12, [.ref nw, .ref kp, .ref ik, .ref mr, .long 0, .long 1, .ref mw, .long 0, .int 0, .int 0, .long 0, .long 0, .ref mq, .ref mz, .ref my, .int 0, .ref mb, .int 0, .int 0, .int 0, .int 0, .int 0, .ref mx, .ref mv])), (nw, .inl (cn, 350, .inl (fun _ => 0))), (mr, .inl (cm, 3, .inl (fun _ => 0)))])) (va_Qi (fun (r : Int32) (_ : Unit) => r = (if 0 ≤ na ∧ na ≤ 5 then 0 else (-2))) (fun _ _ => True) (va_A [(mo, .inr (12, [.ref nw, .ref kp, .ref ik, .ref mr, .long 0, .long 1, .ref mw, .long 0, .int 0, .int 0, .long 0, .long 0, .ref mq, .ref mz, .ref my, .int 0, .ref mb, .int 0, .int 0, .int 0, .int 0, .int 0, .ref mx, .ref mv])), (nw, .inl (cn, 350, .inl (fun _ => 0))), (mr, .inl (cm, 3, .inl (fun _ => 0)))] sz)) 0 0 (va_A [(mo, .inr (12, [.ref nw, .ref kp, .ref ik, .ref mr, .long 0, .long 1, .ref mw, .long 0, .int 0, .int 0, .long 0, .long 0, .ref mq, .ref mz, .ref my, .int 0, .ref mb, .int 0, .int 0, .int 0, .int 0, .int 0, .ref mx, .ref mv])), (nw, .inl (cn, 350, .inl (fun _ => 0))), (mr, .inl (cm, 3, .inl (fun _ => 0)))] sz) := by
  refine Met.ofW (cc := cX12_count) (maxL := 2) (ret := (some .int)) (by decide) rfl ?_
  intro p e s m args below meth c s₁ B hml hv
  obtain ⟨rfl, hsz, hP, hK, hD0⟩ := hv
  have hx := B.exec
  have hb := B.bytes
  have hr := B.returns
  have hts := atoms_spec (ws := wsX12_count) B.pre
  have hown : s.vm.findClass RX12 = some m.cls := findClass_of_methodNamed B.named
  have hlocks := B.notSynchronized
  subst hsz
  have hD := hD0.self (sz := s.heap.size)
  generalize hAe : va_A [(mo, .inr (12, [.ref nw, .ref kp, .ref ik, .ref mr, .long 0, .long 1, .ref mw, .long 0, .int 0, .int 0, .long 0, .long 0, .ref mq, .ref mz, .ref my, .int 0, .ref mb, .int 0, .int 0, .int 0, .int 0, .int 0, .ref mx, .ref mv])), (nw, .inl (cn, 350, .inl (fun _ => 0))), (mr, .inl (cm, 3, .inl (fun _ => 0)))] s.heap.size = A at hD ⊢
  have hA : ∀ q : Nat, s.heap.size ≤ q → A q := fun q h => by rw [← hAe]; exact Or.inr h
  have hS : va_S A s.heap s.heap [] := va_S.rf
  have hP : va_P (dC, dI) vwCl [(mo, .inr (12, [.ref nw, .ref kp, .ref ik, .ref mr, .long 0, .long 1, .ref mw, .long 0, .int 0, .int 0, .long 0, .long 0, .ref mq, .ref mz, .ref my, .int 0, .ref mb, .int 0, .int 0, .int 0, .int 0, .int 0, .ref mx, .ref mv])), (nw, .inl (cn, 350, .inl (fun _ => 0))), (mr, .inl (cm, 3, .inl (fun _ => 0)))] s.heap := hP
  have hl := lv_entry ([.ref mo, .int na]) (n := 2) (Nat.le_of_ble_eq_true rfl)
  rw [lg_entry_eq]
  generalize (lg_sl ([.ref mo, .int na]) ++ List.replicate (2 - (lg_sl ([.ref mo, .int na])).length) Slot.unset).toArray = ls at hl ⊢
  have hl : lv_has ls 2 [(0, .ref mo), (1, .int na)] := hl
  refine lv_iload_n hx hb dX12_count_0 rfl (lv_at hl 1 rfl) ?_
  refine lv_i2l (v := na.toInt64) hx hb dX12_count_1 rfl ?_
  refine lv_lconst (v := 0) hx hb dX12_count_2 (by decide) ?_
  refine lv_ldc2 hx hb hown (hts (.constantLong RX12 53 (5)) (by decide +kernel)) dX12_count_3 ?_
  refine vp_callSi (va_Run.run (va_runS (As := [.long na.toInt64, .long 0, .long 5]) (rest := []) ⟨hx, hb, hml, hown, hts⟩ (k_in l dC dI na.toInt64 0 5) (va_cwS 3 hts gX12_count_X12_in rfl rfl rfl (by decide +kernel) ⟨Nat.le_of_ble_eq_true rfl, Nat.le_of_ble_eq_true rfl⟩) ⟨fun a U g mk q => ⟨q.1, trivial⟩, fun U hU hW => ⟨rfl, trivial⟩⟩ rfl rfl hl.1 rfl (lv_room (Nat.le_of_ble_eq_true rfl)) dX12_count_6 ⟨Nat.le_of_ble_eq_true rfl, Nat.le_of_ble_eq_true rfl⟩)) (fun r_1 hw_2 => ?_)
  by_cases hc_3 : 0 ≤ na ∧ na ≤ 5
  · obtain rfl : 1 = r_1 := (hw_2.trans (if_pos ((tz_in64 (by first | rfl | decide) rfl (by first | rfl | decide)).mpr hc_3))).symm
    refine lv_if_eq (tgt := 20) hx hb dX12_count_9 (by decide) (fun c_4 => ?_) (fun c_4 => ?_)
    · exact absurd c_4 (by decide)
    · refine lv_aload_n hx hb dX12_count_12 rfl (lv_at hl 0 rfl) ?_
      refine lv_iload_n hx hb dX12_count_13 rfl (lv_at hl 1 rfl) ?_
      have hPc_5 := hP.sub (ws' := [(mo, .inr (12, [.ref nw, .ref kp, .ref ik, .ref mr, .long 0, .long 1, .ref mw, .long 0, .int 0, .int 0, .long 0, .long 0, .ref mq, .ref mz, .ref my, .int 0, .ref mb, .int 0, .int 0, .int 0, .int 0, .int 0, .ref mx, .ref mv])), (nw, .inl (cn, 350, .inl (fun _ => 0)))]) [0, 1] rfl
      have hKc_6 := hK.sub (tys' := [(cn, .int)]) [0] rfl
      refine vp_callSi (va_Run.run (va_runV (As := [.int na]) (rest := []) ⟨hx, hb, hml, hown, hts⟩ (k_counted l dC dI mo nw kp ik mr mw mq mz my mb mx mv cn na hc_3) (cwV 1 hts gX12_count_X12_counted rfl rfl rfl (by decide +kernel) ⟨Nat.le_of_ble_eq_true rfl, Nat.le_of_ble_eq_true rfl⟩) ⟨fun a U g mk q => by obtain ⟨q0, qP, qK⟩ := q; exact ⟨q0, qP, va_K.moved (u := U) (U := U.calling g mk a) (Vm.Alike.refl U.vm) qK⟩, va_recv hK hP (ci := 12) (q0 := 0) rfl rfl, fun U hU hW => ⟨rfl, by rw [hU]; exact hPc_5, va_K.moved hW.alike hKc_6⟩⟩ rfl rfl hl.1 rfl (lv_room (Nat.le_of_ble_eq_true rfl)) dX12_count_14 ⟨Nat.le_of_ble_eq_true rfl, Nat.le_of_ble_eq_true rfl⟩)) (fun r_7 hw_8 => ?_)
      obtain rfl : 0 = r_7 := hw_8.symm
      refine lv_goto (tgt := 26) hx hb dX12_count_17 (by decide) ?_
      exact W.iret (v := 0) hx hb hr (fun t ht hW => ⟨⟨0, (), rfl, (if_pos hc_3).symm, trivial⟩, hS.F ht⟩) hS.2.2 dX12_count_26
  · obtain rfl : 0 = r_1 := (hw_2.trans (if_neg (fun z => hc_3 ((tz_in64 (by first | rfl | decide) rfl (by first | rfl | decide)).mp z)))).symm
    refine lv_if_eq (tgt := 20) hx hb dX12_count_9 (by decide) (fun c_9 => ?_) (fun c_9 => ?_)
    · refine lv_aload_n hx hb dX12_count_20 rfl (lv_at hl 0 rfl) ?_
      refine lv_bipush (v := (-2)) hx hb dX12_count_21 (by decide) ?_
      have hPc := hP.sub (ws' := [(mo, .inr (12, [.ref nw, .ref kp, .ref ik, .ref mr, .long 0, .long 1, .ref mw, .long 0, .int 0, .int 0, .long 0, .long 0, .ref mq, .ref mz, .ref my, .int 0, .ref mb, .int 0, .int 0, .int 0, .int 0, .int 0, .ref mx, .ref mv])), (mr, .inl (cm, 3, .inl (fun _ => 0)))]) [0, 2] rfl
      have hDc := hD.sub (ws' := [(mo, .inr (12, [.ref nw, .ref kp, .ref ik, .ref mr, .long 0, .long 1, .ref mw, .long 0, .int 0, .int 0, .long 0, .long 0, .ref mq, .ref mz, .ref my, .int 0, .ref mb, .int 0, .int 0, .int 0, .int 0, .int 0, .ref mx, .ref mv])), (mr, .inl (cm, 3, .inl (fun _ => 0)))]) [0, 2] (by decide) rfl
      have hKc := hK.sub (tys' := [(cm, .int)]) [1] rfl
      have hFc := va_free (wc := [(mo, .inr (12, [.ref nw, .ref kp, .ref ik, .ref mr, .long 0, .long 1, .ref mw, .long 0, .int 0, .int 0, .long 0, .long 0, .ref mq, .ref mz, .ref my, .int 0, .ref mb, .int 0, .int 0, .int 0, .int 0, .int 0, .ref mx, .ref mv])), (mr, .inl (cm, 3, .inl (fun _ => 0)))]) hD hS hA [0, 2] rfl
      refine va_calli (va_runV (As := [.int (-2)]) (rest := []) ⟨hx, hb, hml, hown, hts⟩ (k_bad l dC dI mo nw kp ik mr mw mq mz my mb mx mv cm (-2) s.heap.size) (cwV 1 hts gX12_count_X12_bad rfl rfl rfl (by decide +kernel) ⟨Nat.le_of_ble_eq_true rfl, Nat.le_of_ble_eq_true rfl⟩) ⟨fun a U g mk q => by obtain ⟨q0, q1, qP, qK, qD⟩ := q; exact ⟨q0, q1, qP, va_K.moved (u := U) (U := U.calling g mk a) (Vm.Alike.refl U.vm) qK, qD⟩, va_recv hK hP (ci := 12) (q0 := 0) rfl rfl, fun U hU hW => ⟨rfl, by rw [hU], by rw [hU]; exact hPc, va_K.moved hW.alike hKc, hDc.weaken (fun _ _ _ _ => trivial)⟩⟩ rfl rfl hl.1 rfl (lv_room (Nat.le_of_ble_eq_true rfl)) dX12_count_23 ⟨Nat.le_of_ble_eq_true rfl, Nat.le_of_ble_eq_true rfl⟩) hS (fun q _ h => hFc q h) hFc (fun r_10 u_ t H1 locs ht hvm hw_11 hB hz1 hk1 hS => ?_)
      obtain ⟨hP, hD⟩ := va_join (wr := [(nw, .inl (cn, 350, .inl (fun _ => 0)))]) (w1 := []) hP hD [0, 2] [1] rfl rfl (by decide) (by decide) hk1 hFc tz_P0 tz_D0
      generalize H1 = H at hP hS ⊢
      have hP : va_P (dC, dI) vwCl [(nw, .inl (cn, 350, .inl (fun _ => 0)))] H := hP
      have hD : va_D A [(nw, .inl (cn, 350, .inl (fun _ => 0)))] := hD
      obtain rfl : (-2) = r_10 := hw_11.symm
      exact W.iret (v := (-2)) hx hb hr (fun t ht hW => ⟨⟨(-2), (), rfl, (if_neg hc_3).symm, trivial⟩, hS.F ht⟩) hS.2.2 dX12_count_26
    · exact absurd c_9 (by decide)
set_option maxRecDepth 20000 in
theorem ggX12_digest_X12_counted : GoodIn wsX12_digest wsX12_counted := goodIn_r _ [10, 3, 11, 16, 17, 18, 19, 20, 21, 22, 23, 24, 25, 26, 27, 28, 29, 30, 31, 32, 33, 34, 35, 36, 37, 38, 39] (by decide +kernel) (by decide +kernel)
set_option maxRecDepth 20000 in
theorem gX12_digest_X12_counted : GoodIn wsX12_digest (wsV RX12 313 RX12 yX12_counted wsX12_counted) := goodIn_app (goodIn_of _ (by decide +kernel)) ggX12_digest_X12_counted
set_option maxRecDepth 20000 in
theorem ggX12_digest_X12_sums : GoodIn wsX12_digest wsX12_sums := goodIn_r _ [15, 2, 3, 16, 17, 18, 19, 20, 21, 22, 23, 24, 25, 26, 27, 28, 29, 30, 31, 32, 33, 34, 35, 36, 37, 38, 39] (by decide +kernel) (by decide +kernel)
set_option maxRecDepth 20000 in
theorem gX12_digest_X12_sums : GoodIn wsX12_digest (wsV RX12 320 RX12 yX12_sums wsX12_sums) := goodIn_app (goodIn_of _ (by decide +kernel)) ggX12_digest_X12_sums
theorem dX12_digest_0 : decode cX12_digest 0 = .ok (.ldc2_w 318, 3) := by decide +kernel
theorem dX12_digest_3 : decode cX12_digest 3 = .ok (.lstore_n 1, 1) := by decide +kernel
theorem dX12_digest_4 : decode cX12_digest 4 = .ok (.iconst 0, 1) := by decide +kernel
theorem dX12_digest_5 : decode cX12_digest 5 = .ok (.istore_n 3, 1) := by decide +kernel
theorem dX12_digest_6 : decode cX12_digest 6 = .ok (.iload_n 3, 1) := by decide +kernel
theorem dX12_digest_7 : decode cX12_digest 7 = .ok (.bipush 6, 2) := by decide +kernel
theorem dX12_digest_9 : decode cX12_digest 9 = .ok (.if_icmp .ge 22, 3) := by decide +kernel
theorem dX12_digest_12 : decode cX12_digest 12 = .ok (.ldc2_w 316, 3) := by decide +kernel
theorem dX12_digest_15 : decode cX12_digest 15 = .ok (.lload_n 1, 1) := by decide +kernel
theorem dX12_digest_16 : decode cX12_digest 16 = .ok (.lmul, 1) := by decide +kernel
theorem dX12_digest_17 : decode cX12_digest 17 = .ok (.aload_n 0, 1) := by decide +kernel
theorem dX12_digest_18 : decode cX12_digest 18 = .ok (.iload_n 3, 1) := by decide +kernel
theorem dX12_digest_19 : decode cX12_digest 19 = .ok (.invokevirtual 313, 3) := by decide +kernel
theorem dX12_digest_22 : decode cX12_digest 22 = .ok (.i2l, 1) := by decide +kernel
theorem dX12_digest_23 : decode cX12_digest 23 = .ok (.ladd, 1) := by decide +kernel
theorem dX12_digest_24 : decode cX12_digest 24 = .ok (.lstore_n 1, 1) := by decide +kernel
theorem dX12_digest_25 : decode cX12_digest 25 = .ok (.iinc 3 1, 3) := by decide +kernel
theorem dX12_digest_28 : decode cX12_digest 28 = .ok (.goto (-22), 3) := by decide +kernel
theorem dX12_digest_31 : decode cX12_digest 31 = .ok (.aload_n 0, 1) := by decide +kernel
theorem dX12_digest_32 : decode cX12_digest 32 = .ok (.lload_n 1, 1) := by decide +kernel
theorem dX12_digest_33 : decode cX12_digest 33 = .ok (.iconst 5, 1) := by decide +kernel
theorem dX12_digest_34 : decode cX12_digest 34 = .ok (.aload_n 0, 1) := by decide +kernel
theorem dX12_digest_35 : decode cX12_digest 35 = .ok (.getfield 7, 3) := by decide +kernel
theorem dX12_digest_38 : decode cX12_digest 38 = .ok (.iconst 0, 1) := by decide +kernel
theorem dX12_digest_39 : decode cX12_digest 39 = .ok (.iaload, 1) := by decide +kernel
theorem dX12_digest_40 : decode cX12_digest 40 = .ok (.invokevirtual 320, 3) := by decide +kernel
theorem dX12_digest_43 : decode cX12_digest 43 = .ok (.lstore_n 1, 1) := by decide +kernel
theorem dX12_digest_44 : decode cX12_digest 44 = .ok (.aload_n 0, 1) := by decide +kernel
theorem dX12_digest_45 : decode cX12_digest 45 = .ok (.lload_n 1, 1) := by decide +kernel
theorem dX12_digest_46 : decode cX12_digest 46 = .ok (.bipush 10, 2) := by decide +kernel
theorem dX12_digest_48 : decode cX12_digest 48 = .ok (.iconst 4, 1) := by decide +kernel
theorem dX12_digest_49 : decode cX12_digest 49 = .ok (.aload_n 0, 1) := by decide +kernel
theorem dX12_digest_50 : decode cX12_digest 50 = .ok (.getfield 7, 3) := by decide +kernel
theorem dX12_digest_53 : decode cX12_digest 53 = .ok (.iconst 1, 1) := by decide +kernel
theorem dX12_digest_54 : decode cX12_digest 54 = .ok (.iaload, 1) := by decide +kernel
theorem dX12_digest_55 : decode cX12_digest 55 = .ok (.imul, 1) := by decide +kernel
theorem dX12_digest_56 : decode cX12_digest 56 = .ok (.invokevirtual 320, 3) := by decide +kernel
theorem dX12_digest_59 : decode cX12_digest 59 = .ok (.lstore_n 1, 1) := by decide +kernel
theorem dX12_digest_60 : decode cX12_digest 60 = .ok (.aload_n 0, 1) := by decide +kernel
theorem dX12_digest_61 : decode cX12_digest 61 = .ok (.lload_n 1, 1) := by decide +kernel
theorem dX12_digest_62 : decode cX12_digest 62 = .ok (.bipush 30, 2) := by decide +kernel
theorem dX12_digest_64 : decode cX12_digest 64 = .ok (.iconst 4, 1) := by decide +kernel
theorem dX12_digest_65 : decode cX12_digest 65 = .ok (.aload_n 0, 1) := by decide +kernel
theorem dX12_digest_66 : decode cX12_digest 66 = .ok (.getfield 7, 3) := by decide +kernel
theorem dX12_digest_69 : decode cX12_digest 69 = .ok (.iconst 2, 1) := by decide +kernel
theorem dX12_digest_70 : decode cX12_digest 70 = .ok (.iaload, 1) := by decide +kernel
theorem dX12_digest_71 : decode cX12_digest 71 = .ok (.imul, 1) := by decide +kernel
theorem dX12_digest_72 : decode cX12_digest 72 = .ok (.invokevirtual 320, 3) := by decide +kernel
theorem dX12_digest_75 : decode cX12_digest 75 = .ok (.lstore_n 1, 1) := by decide +kernel
theorem dX12_digest_76 : decode cX12_digest 76 = .ok (.aload_n 0, 1) := by decide +kernel
theorem dX12_digest_77 : decode cX12_digest 77 = .ok (.lload_n 1, 1) := by decide +kernel
theorem dX12_digest_78 : decode cX12_digest 78 = .ok (.bipush 62, 2) := by decide +kernel
theorem dX12_digest_80 : decode cX12_digest 80 = .ok (.iconst 4, 1) := by decide +kernel
theorem dX12_digest_81 : decode cX12_digest 81 = .ok (.aload_n 0, 1) := by decide +kernel
theorem dX12_digest_82 : decode cX12_digest 82 = .ok (.getfield 7, 3) := by decide +kernel
theorem dX12_digest_85 : decode cX12_digest 85 = .ok (.iconst 3, 1) := by decide +kernel
theorem dX12_digest_86 : decode cX12_digest 86 = .ok (.iaload, 1) := by decide +kernel
theorem dX12_digest_87 : decode cX12_digest 87 = .ok (.imul, 1) := by decide +kernel
theorem dX12_digest_88 : decode cX12_digest 88 = .ok (.invokevirtual 320, 3) := by decide +kernel
theorem dX12_digest_91 : decode cX12_digest 91 = .ok (.lstore_n 1, 1) := by decide +kernel
theorem dX12_digest_92 : decode cX12_digest 92 = .ok (.ldc2_w 316, 3) := by decide +kernel
theorem dX12_digest_95 : decode cX12_digest 95 = .ok (.ldc2_w 316, 3) := by decide +kernel
theorem dX12_digest_98 : decode cX12_digest 98 = .ok (.lload_n 1, 1) := by decide +kernel
theorem dX12_digest_99 : decode cX12_digest 99 = .ok (.lmul, 1) := by decide +kernel
theorem dX12_digest_100 : decode cX12_digest 100 = .ok (.aload_n 0, 1) := by decide +kernel
theorem dX12_digest_101 : decode cX12_digest 101 = .ok (.getfield 148, 3) := by decide +kernel
theorem dX12_digest_104 : decode cX12_digest 104 = .ok (.ladd, 1) := by decide +kernel
theorem dX12_digest_105 : decode cX12_digest 105 = .ok (.lmul, 1) := by decide +kernel
theorem dX12_digest_106 : decode cX12_digest 106 = .ok (.aload_n 0, 1) := by decide +kernel
theorem dX12_digest_107 : decode cX12_digest 107 = .ok (.getfield 23, 3) := by decide +kernel
theorem dX12_digest_110 : decode cX12_digest 110 = .ok (.ladd, 1) := by decide +kernel
theorem dX12_digest_111 : decode cX12_digest 111 = .ok (.lreturn, 1) := by decide +kernel
set_option maxRecDepth 20000 in
theorem iw_k_m_digest_X12 : ∀ w ∈ wsX120, w ∈ wsX12_digest := by decide +kernel
set_option maxHeartbeats 4000000 in
set_option maxRecDepth 100000 in
theorem k_m_digest (l : Launch) (dC : Nat → ClassId) (dI : Nat → Nat → Nat) (mo : Nat) (nw : Nat) (kp : Nat) (ik : Nat) (mr : Nat) (mw : Nat) (mq : Nat) (mz : Nat) (my : Nat) (mb : Nat) (mx : Nat) (mv : Nat) (cn : ClassId) (sz : Nat) : Met l yX12_digest wsX12_digest ({ frames := 1, cells := 0, slots := 0, locals := 27 }) (va_Pc [.ref mo] (fun U => U.heap.size = sz ∧ va_P (dC, dI) vwCl [(mo, .inr (12, [.ref nw, .ref kp, .ref ik, .ref mr, .long 0, .long 1, .ref mw, .long 0, .int 0, .int 0, .long 0, .long 0, .ref mq, .ref mz, .ref my, .int 0, .ref mb, .int 0, .int 0, .int 0, .int 0, .int 0, .ref mx, .ref mv])), (nw, .inl (cn, 350, .inl (fun _ => 0)))] U.heap ∧ va_K (dC, dI) vwCl [(cn, .int)] U ∧ va_D (fun _ => True) [(mo, .inr (12, [.ref nw, .ref kp, .ref ik, .ref mr, .long 0, .long 1, .ref mw, .long 0, .int 0, .int 0, .long 0, .long 0, .ref mq, .ref mz, .ref my, .int 0, .ref mb, .int 0, .int 0, .int 0, .int 0, .int 0, .ref mx, .ref mv])), (nw, .inl (cn, 350, .inl (fun _ => 0)))])) (va_Ql (fun (r : Int64) (_ : Unit) => r = 799158902082218) (fun _ _ => True) (va_A [(mo, .inr (12, [.ref nw, .ref kp, .ref ik, .ref mr, .long 0, .long 1, .ref mw, .long 0, .int 0, .int 0, .long 0, .long 0, .ref mq, .ref mz, .ref my, .int 0, .ref mb, .int 0, .int 0, .int 0, .int 0, .int 0, .ref mx, .ref mv])), (nw, .inl (cn, 350, .inl (fun _ => 0)))] sz)) 0 0 (va_A [(mo, .inr (12, [.ref nw, .ref kp, .ref ik, .ref mr, .long 0, .long 1, .ref mw, .long 0, .int 0, .int 0, .long 0, .long 0, .ref mq, .ref mz, .ref my, .int 0, .ref mb, .int 0, .int 0, .int 0, .int 0, .int 0, .ref mx, .ref mv])), (nw, .inl (cn, 350, .inl (fun _ => 0)))] sz) := by
  refine Met.ofW (cc := cX12_digest) (maxL := 4) (ret := (some .long)) (by decide) rfl ?_
  intro p e s m args below meth c s₁ B hml hv
  obtain ⟨rfl, hsz, hP, hK, hD0⟩ := hv
  have hx := B.exec
  have hb := B.bytes
  have hr := B.returns
  have hts := atoms_spec (ws := wsX12_digest) B.pre
  have hown : s.vm.findClass RX12 = some m.cls := findClass_of_methodNamed B.named
  have hlocks := B.notSynchronized
  subst hsz
  have hD := hD0.self (sz := s.heap.size)
  generalize hAe : va_A [(mo, .inr (12, [.ref nw, .ref kp, .ref ik, .ref mr, .long 0, .long 1, .ref mw, .long 0, .int 0, .int 0, .long 0, .long 0, .ref mq, .ref mz, .ref my, .int 0, .ref mb, .int 0, .int 0, .int 0, .int 0, .int 0, .ref mx, .ref mv])), (nw, .inl (cn, 350, .inl (fun _ => 0)))] s.heap.size = A at hD ⊢
  have hA : ∀ q : Nat, s.heap.size ≤ q → A q := fun q h => by rw [← hAe]; exact Or.inr h
  have hS : va_S A s.heap s.heap [] := va_S.rf
  have hP : va_P (dC, dI) vwCl [(mo, .inr (12, [.ref nw, .ref kp, .ref ik, .ref mr, .long 0, .long 1, .ref mw, .long 0, .int 0, .int 0, .long 0, .long 0, .ref mq, .ref mz, .ref my, .int 0, .ref mb, .int 0, .int 0, .int 0, .int 0, .int 0, .ref mx, .ref mv])), (nw, .inl (cn, 350, .inl (fun _ => 0)))] s.heap := hP
  have hl := lv_entry ([.ref mo]) (n := 4) (Nat.le_of_ble_eq_true rfl)
  rw [lg_entry_eq]
  generalize (lg_sl ([.ref mo]) ++ List.replicate (4 - (lg_sl ([.ref mo])).length) Slot.unset).toArray = ls at hl ⊢
  have hl : lv_has ls 4 [(0, .ref mo)] := hl
  refine lv_ldc2 hx hb hown (hts (.constantLong RX12 318 (937)) (by decide +kernel)) dX12_digest_0 ?_
  refine lv_lstore_n (lv' := [(1, .long 937), (0, .ref mo)]) hx hb dX12_digest_3 rfl hl (by decide) rfl (fun ls hl => ?_)
  refine lv_iconst (v := 0) hx hb dX12_digest_4 (by decide) ?_
  refine lv_istore_n (lv' := [(3, .int 0), (1, .long 937), (0, .ref mo)]) hx hb dX12_digest_5 rfl hl (by decide) rfl (fun ls hl => ?_)
  refine lv_iload_n hx hb dX12_digest_6 rfl (lv_at hl 0 rfl) ?_
  refine lv_bipush (v := 6) hx hb dX12_digest_7 (by decide) ?_
  refine lv_icmp_ge (tgt := 31) hx hb dX12_digest_9 (by decide) (fun c_1 => ?_) (fun c_1 => ?_)
  · exact absurd c_1 (by decide)
  · refine lv_ldc2 hx hb hown (hts (.constantLong RX12 316 (31)) (by decide +kernel)) dX12_digest_12 ?_
    refine lv_lload_n hx hb dX12_digest_15 rfl (lv_at hl 1 rfl) ?_
    refine lv_lmul hx hb dX12_digest_16 ?_
    refine tz_l 29047 (by decide) ?_
    refine lv_aload_n hx hb dX12_digest_17 rfl (lv_at hl 2 rfl) ?_
    refine lv_iload_n hx hb dX12_digest_18 rfl (lv_at hl 0 rfl) ?_
    have hPc_2 := hP.sub (ws' := [(mo, .inr (12, [.ref nw, .ref kp, .ref ik, .ref mr, .long 0, .long 1, .ref mw, .long 0, .int 0, .int 0, .long 0, .long 0, .ref mq, .ref mz, .ref my, .int 0, .ref mb, .int 0, .int 0, .int 0, .int 0, .int 0, .ref mx, .ref mv])), (nw, .inl (cn, 350, .inl (fun _ => 0)))]) [0, 1] rfl
    have hKc_3 := hK.sub (tys' := [(cn, .int)]) [0] rfl
    refine vp_callSi (va_Run.run (va_runV (As := [.int 0]) (rest := [.long 29047]) ⟨hx, hb, hml, hown, hts⟩ (k_counted l dC dI mo nw kp ik mr mw mq mz my mb mx mv cn 0 (by decide)) (cwV 1 hts gX12_digest_X12_counted rfl rfl rfl (by decide +kernel) ⟨Nat.le_of_ble_eq_true rfl, Nat.le_of_ble_eq_true rfl⟩) ⟨fun a U g mk q => by obtain ⟨q0, qP, qK⟩ := q; exact ⟨q0, qP, va_K.moved (u := U) (U := U.calling g mk a) (Vm.Alike.refl U.vm) qK⟩, va_recv hK hP (ci := 12) (q0 := 0) rfl rfl, fun U hU hW => ⟨rfl, by rw [hU]; exact hPc_2, va_K.moved hW.alike hKc_3⟩⟩ rfl rfl hl.1 rfl (lv_room (Nat.le_of_ble_eq_true rfl)) dX12_digest_19 ⟨Nat.le_of_ble_eq_true rfl, Nat.le_of_ble_eq_true rfl⟩)) (fun r_4 hw_5 => ?_)
    obtain rfl : 0 = r_4 := hw_5.symm
    refine lv_i2l (v := 0) hx hb dX12_digest_22 (by decide) ?_
    refine lv_ladd hx hb dX12_digest_23 ?_
    refine tz_l 29047 (by decide) ?_
    refine lv_lstore_n (lv' := [(1, .long 29047), (3, .int 0), (0, .ref mo)]) hx hb dX12_digest_24 rfl hl (by decide) rfl (fun ls hl => ?_)
    refine lv_iinc (v := 1) (lv' := [(3, .int 1), (1, .long 29047), (0, .ref mo)]) hx hb dX12_digest_25 hl (k := 1) rfl (by decide) (by decide) rfl (fun ls hl => ?_)
    refine lv_goto (tgt := 6) hx hb dX12_digest_28 (by decide) ?_
    refine lv_iload_n hx hb dX12_digest_6 rfl (lv_at hl 0 rfl) ?_
    refine lv_bipush (v := 6) hx hb dX12_digest_7 (by decide) ?_
    refine lv_icmp_ge (tgt := 31) hx hb dX12_digest_9 (by decide) (fun c_6 => ?_) (fun c_6 => ?_)
    · exact absurd c_6 (by decide)
    · refine lv_ldc2 hx hb hown (hts (.constantLong RX12 316 (31)) (by decide +kernel)) dX12_digest_12 ?_
      refine lv_lload_n hx hb dX12_digest_15 rfl (lv_at hl 1 rfl) ?_
      refine lv_lmul hx hb dX12_digest_16 ?_
      refine tz_l 900457 (by decide) ?_
      refine lv_aload_n hx hb dX12_digest_17 rfl (lv_at hl 2 rfl) ?_
      refine lv_iload_n hx hb dX12_digest_18 rfl (lv_at hl 0 rfl) ?_
      have hPc_7 := hP.sub (ws' := [(mo, .inr (12, [.ref nw, .ref kp, .ref ik, .ref mr, .long 0, .long 1, .ref mw, .long 0, .int 0, .int 0, .long 0, .long 0, .ref mq, .ref mz, .ref my, .int 0, .ref mb, .int 0, .int 0, .int 0, .int 0, .int 0, .ref mx, .ref mv])), (nw, .inl (cn, 350, .inl (fun _ => 0)))]) [0, 1] rfl
      have hKc_8 := hK.sub (tys' := [(cn, .int)]) [0] rfl
      refine vp_callSi (va_Run.run (va_runV (As := [.int 1]) (rest := [.long 900457]) ⟨hx, hb, hml, hown, hts⟩ (k_counted l dC dI mo nw kp ik mr mw mq mz my mb mx mv cn 1 (by decide)) (cwV 1 hts gX12_digest_X12_counted rfl rfl rfl (by decide +kernel) ⟨Nat.le_of_ble_eq_true rfl, Nat.le_of_ble_eq_true rfl⟩) ⟨fun a U g mk q => by obtain ⟨q0, qP, qK⟩ := q; exact ⟨q0, qP, va_K.moved (u := U) (U := U.calling g mk a) (Vm.Alike.refl U.vm) qK⟩, va_recv hK hP (ci := 12) (q0 := 0) rfl rfl, fun U hU hW => ⟨rfl, by rw [hU]; exact hPc_7, va_K.moved hW.alike hKc_8⟩⟩ rfl rfl hl.1 rfl (lv_room (Nat.le_of_ble_eq_true rfl)) dX12_digest_19 ⟨Nat.le_of_ble_eq_true rfl, Nat.le_of_ble_eq_true rfl⟩)) (fun r_9 hw_10 => ?_)
      obtain rfl : 0 = r_9 := hw_10.symm
      refine lv_i2l (v := 0) hx hb dX12_digest_22 (by decide) ?_
      refine lv_ladd hx hb dX12_digest_23 ?_
      refine tz_l 900457 (by decide) ?_
      refine lv_lstore_n (lv' := [(1, .long 900457), (3, .int 1), (0, .ref mo)]) hx hb dX12_digest_24 rfl hl (by decide) rfl (fun ls hl => ?_)
      refine lv_iinc (v := 2) (lv' := [(3, .int 2), (1, .long 900457), (0, .ref mo)]) hx hb dX12_digest_25 hl (k := 1) rfl (by decide) (by decide) rfl (fun ls hl => ?_)
      refine lv_goto (tgt := 6) hx hb dX12_digest_28 (by decide) ?_
      refine lv_iload_n hx hb dX12_digest_6 rfl (lv_at hl 0 rfl) ?_
      refine lv_bipush (v := 6) hx hb dX12_digest_7 (by decide) ?_
      refine lv_icmp_ge (tgt := 31) hx hb dX12_digest_9 (by decide) (fun c_11 => ?_) (fun c_11 => ?_)
      · exact absurd c_11 (by decide)
      · refine lv_ldc2 hx hb hown (hts (.constantLong RX12 316 (31)) (by decide +kernel)) dX12_digest_12 ?_
        refine lv_lload_n hx hb dX12_digest_15 rfl (lv_at hl 1 rfl) ?_
        refine lv_lmul hx hb dX12_digest_16 ?_
        refine tz_l 27914167 (by decide) ?_
        refine lv_aload_n hx hb dX12_digest_17 rfl (lv_at hl 2 rfl) ?_
        refine lv_iload_n hx hb dX12_digest_18 rfl (lv_at hl 0 rfl) ?_
        have hPc_12 := hP.sub (ws' := [(mo, .inr (12, [.ref nw, .ref kp, .ref ik, .ref mr, .long 0, .long 1, .ref mw, .long 0, .int 0, .int 0, .long 0, .long 0, .ref mq, .ref mz, .ref my, .int 0, .ref mb, .int 0, .int 0, .int 0, .int 0, .int 0, .ref mx, .ref mv])), (nw, .inl (cn, 350, .inl (fun _ => 0)))]) [0, 1] rfl
        have hKc_13 := hK.sub (tys' := [(cn, .int)]) [0] rfl
        refine vp_callSi (va_Run.run (va_runV (As := [.int 2]) (rest := [.long 27914167]) ⟨hx, hb, hml, hown, hts⟩ (k_counted l dC dI mo nw kp ik mr mw mq mz my mb mx mv cn 2 (by decide)) (cwV 1 hts gX12_digest_X12_counted rfl rfl rfl (by decide +kernel) ⟨Nat.le_of_ble_eq_true rfl, Nat.le_of_ble_eq_true rfl⟩) ⟨fun a U g mk q => by obtain ⟨q0, qP, qK⟩ := q; exact ⟨q0, qP, va_K.moved (u := U) (U := U.calling g mk a) (Vm.Alike.refl U.vm) qK⟩, va_recv hK hP (ci := 12) (q0 := 0) rfl rfl, fun U hU hW => ⟨rfl, by rw [hU]; exact hPc_12, va_K.moved hW.alike hKc_13⟩⟩ rfl rfl hl.1 rfl (lv_room (Nat.le_of_ble_eq_true rfl)) dX12_digest_19 ⟨Nat.le_of_ble_eq_true rfl, Nat.le_of_ble_eq_true rfl⟩)) (fun r_14 hw_15 => ?_)
        obtain rfl : 0 = r_14 := hw_15.symm
        refine lv_i2l (v := 0) hx hb dX12_digest_22 (by decide) ?_
        refine lv_ladd hx hb dX12_digest_23 ?_
        refine tz_l 27914167 (by decide) ?_
        refine lv_lstore_n (lv' := [(1, .long 27914167), (3, .int 2), (0, .ref mo)]) hx hb dX12_digest_24 rfl hl (by decide) rfl (fun ls hl => ?_)
        refine lv_iinc (v := 3) (lv' := [(3, .int 3), (1, .long 27914167), (0, .ref mo)]) hx hb dX12_digest_25 hl (k := 1) rfl (by decide) (by decide) rfl (fun ls hl => ?_)
        refine lv_goto (tgt := 6) hx hb dX12_digest_28 (by decide) ?_
        refine lv_iload_n hx hb dX12_digest_6 rfl (lv_at hl 0 rfl) ?_
        refine lv_bipush (v := 6) hx hb dX12_digest_7 (by decide) ?_
        refine lv_icmp_ge (tgt := 31) hx hb dX12_digest_9 (by decide) (fun c_16 => ?_) (fun c_16 => ?_)
        · exact absurd c_16 (by decide)
        · refine lv_ldc2 hx hb hown (hts (.constantLong RX12 316 (31)) (by decide +kernel)) dX12_digest_12 ?_
          refine lv_lload_n hx hb dX12_digest_15 rfl (lv_at hl 1 rfl) ?_
          refine lv_lmul hx hb dX12_digest_16 ?_
          refine tz_l 865339177 (by decide) ?_
          refine lv_aload_n hx hb dX12_digest_17 rfl (lv_at hl 2 rfl) ?_
          refine lv_iload_n hx hb dX12_digest_18 rfl (lv_at hl 0 rfl) ?_
          have hPc_17 := hP.sub (ws' := [(mo, .inr (12, [.ref nw, .ref kp, .ref ik, .ref mr, .long 0, .long 1, .ref mw, .long 0, .int 0, .int 0, .long 0, .long 0, .ref mq, .ref mz, .ref my, .int 0, .ref mb, .int 0, .int 0, .int 0, .int 0, .int 0, .ref mx, .ref mv])), (nw, .inl (cn, 350, .inl (fun _ => 0)))]) [0, 1] rfl
          have hKc_18 := hK.sub (tys' := [(cn, .int)]) [0] rfl
          refine vp_callSi (va_Run.run (va_runV (As := [.int 3]) (rest := [.long 865339177]) ⟨hx, hb, hml, hown, hts⟩ (k_counted l dC dI mo nw kp ik mr mw mq mz my mb mx mv cn 3 (by decide)) (cwV 1 hts gX12_digest_X12_counted rfl rfl rfl (by decide +kernel) ⟨Nat.le_of_ble_eq_true rfl, Nat.le_of_ble_eq_true rfl⟩) ⟨fun a U g mk q => by obtain ⟨q0, qP, qK⟩ := q; exact ⟨q0, qP, va_K.moved (u := U) (U := U.calling g mk a) (Vm.Alike.refl U.vm) qK⟩, va_recv hK hP (ci := 12) (q0 := 0) rfl rfl, fun U hU hW => ⟨rfl, by rw [hU]; exact hPc_17, va_K.moved hW.alike hKc_18⟩⟩ rfl rfl hl.1 rfl (lv_room (Nat.le_of_ble_eq_true rfl)) dX12_digest_19 ⟨Nat.le_of_ble_eq_true rfl, Nat.le_of_ble_eq_true rfl⟩)) (fun r_19 hw_20 => ?_)
          obtain rfl : 0 = r_19 := hw_20.symm
          refine lv_i2l (v := 0) hx hb dX12_digest_22 (by decide) ?_
          refine lv_ladd hx hb dX12_digest_23 ?_
          refine tz_l 865339177 (by decide) ?_
          refine lv_lstore_n (lv' := [(1, .long 865339177), (3, .int 3), (0, .ref mo)]) hx hb dX12_digest_24 rfl hl (by decide) rfl (fun ls hl => ?_)
          refine lv_iinc (v := 4) (lv' := [(3, .int 4), (1, .long 865339177), (0, .ref mo)]) hx hb dX12_digest_25 hl (k := 1) rfl (by decide) (by decide) rfl (fun ls hl => ?_)
          refine lv_goto (tgt := 6) hx hb dX12_digest_28 (by decide) ?_
          refine lv_iload_n hx hb dX12_digest_6 rfl (lv_at hl 0 rfl) ?_
          refine lv_bipush (v := 6) hx hb dX12_digest_7 (by decide) ?_
          refine lv_icmp_ge (tgt := 31) hx hb dX12_digest_9 (by decide) (fun c_21 => ?_) (fun c_21 => ?_)
          · exact absurd c_21 (by decide)
          · refine lv_ldc2 hx hb hown (hts (.constantLong RX12 316 (31)) (by decide +kernel)) dX12_digest_12 ?_
            refine lv_lload_n hx hb dX12_digest_15 rfl (lv_at hl 1 rfl) ?_
            refine lv_lmul hx hb dX12_digest_16 ?_
            refine tz_l 26825514487 (by decide) ?_
            refine lv_aload_n hx hb dX12_digest_17 rfl (lv_at hl 2 rfl) ?_
            refine lv_iload_n hx hb dX12_digest_18 rfl (lv_at hl 0 rfl) ?_
            have hPc_22 := hP.sub (ws' := [(mo, .inr (12, [.ref nw, .ref kp, .ref ik, .ref mr, .long 0, .long 1, .ref mw, .long 0, .int 0, .int 0, .long 0, .long 0, .ref mq, .ref mz, .ref my, .int 0, .ref mb, .int 0, .int 0, .int 0, .int 0, .int 0, .ref mx, .ref mv])), (nw, .inl (cn, 350, .inl (fun _ => 0)))]) [0, 1] rfl
            have hKc_23 := hK.sub (tys' := [(cn, .int)]) [0] rfl
            refine vp_callSi (va_Run.run (va_runV (As := [.int 4]) (rest := [.long 26825514487]) ⟨hx, hb, hml, hown, hts⟩ (k_counted l dC dI mo nw kp ik mr mw mq mz my mb mx mv cn 4 (by decide)) (cwV 1 hts gX12_digest_X12_counted rfl rfl rfl (by decide +kernel) ⟨Nat.le_of_ble_eq_true rfl, Nat.le_of_ble_eq_true rfl⟩) ⟨fun a U g mk q => by obtain ⟨q0, qP, qK⟩ := q; exact ⟨q0, qP, va_K.moved (u := U) (U := U.calling g mk a) (Vm.Alike.refl U.vm) qK⟩, va_recv hK hP (ci := 12) (q0 := 0) rfl rfl, fun U hU hW => ⟨rfl, by rw [hU]; exact hPc_22, va_K.moved hW.alike hKc_23⟩⟩ rfl rfl hl.1 rfl (lv_room (Nat.le_of_ble_eq_true rfl)) dX12_digest_19 ⟨Nat.le_of_ble_eq_true rfl, Nat.le_of_ble_eq_true rfl⟩)) (fun r_24 hw_25 => ?_)
            obtain rfl : 0 = r_24 := hw_25.symm
            refine lv_i2l (v := 0) hx hb dX12_digest_22 (by decide) ?_
            refine lv_ladd hx hb dX12_digest_23 ?_
            refine tz_l 26825514487 (by decide) ?_
            refine lv_lstore_n (lv' := [(1, .long 26825514487), (3, .int 4), (0, .ref mo)]) hx hb dX12_digest_24 rfl hl (by decide) rfl (fun ls hl => ?_)
            refine lv_iinc (v := 5) (lv' := [(3, .int 5), (1, .long 26825514487), (0, .ref mo)]) hx hb dX12_digest_25 hl (k := 1) rfl (by decide) (by decide) rfl (fun ls hl => ?_)
            refine lv_goto (tgt := 6) hx hb dX12_digest_28 (by decide) ?_
            refine lv_iload_n hx hb dX12_digest_6 rfl (lv_at hl 0 rfl) ?_
            refine lv_bipush (v := 6) hx hb dX12_digest_7 (by decide) ?_
            refine lv_icmp_ge (tgt := 31) hx hb dX12_digest_9 (by decide) (fun c_26 => ?_) (fun c_26 => ?_)
            · exact absurd c_26 (by decide)
            · refine lv_ldc2 hx hb hown (hts (.constantLong RX12 316 (31)) (by decide +kernel)) dX12_digest_12 ?_
              refine lv_lload_n hx hb dX12_digest_15 rfl (lv_at hl 1 rfl) ?_
              refine lv_lmul hx hb dX12_digest_16 ?_
              refine tz_l 831590949097 (by decide) ?_
              refine lv_aload_n hx hb dX12_digest_17 rfl (lv_at hl 2 rfl) ?_
              refine lv_iload_n hx hb dX12_digest_18 rfl (lv_at hl 0 rfl) ?_
              have hPc_27 := hP.sub (ws' := [(mo, .inr (12, [.ref nw, .ref kp, .ref ik, .ref mr, .long 0, .long 1, .ref mw, .long 0, .int 0, .int 0, .long 0, .long 0, .ref mq, .ref mz, .ref my, .int 0, .ref mb, .int 0, .int 0, .int 0, .int 0, .int 0, .ref mx, .ref mv])), (nw, .inl (cn, 350, .inl (fun _ => 0)))]) [0, 1] rfl
              have hKc_28 := hK.sub (tys' := [(cn, .int)]) [0] rfl
              refine vp_callSi (va_Run.run (va_runV (As := [.int 5]) (rest := [.long 831590949097]) ⟨hx, hb, hml, hown, hts⟩ (k_counted l dC dI mo nw kp ik mr mw mq mz my mb mx mv cn 5 (by decide)) (cwV 1 hts gX12_digest_X12_counted rfl rfl rfl (by decide +kernel) ⟨Nat.le_of_ble_eq_true rfl, Nat.le_of_ble_eq_true rfl⟩) ⟨fun a U g mk q => by obtain ⟨q0, qP, qK⟩ := q; exact ⟨q0, qP, va_K.moved (u := U) (U := U.calling g mk a) (Vm.Alike.refl U.vm) qK⟩, va_recv hK hP (ci := 12) (q0 := 0) rfl rfl, fun U hU hW => ⟨rfl, by rw [hU]; exact hPc_27, va_K.moved hW.alike hKc_28⟩⟩ rfl rfl hl.1 rfl (lv_room (Nat.le_of_ble_eq_true rfl)) dX12_digest_19 ⟨Nat.le_of_ble_eq_true rfl, Nat.le_of_ble_eq_true rfl⟩)) (fun r_29 hw_30 => ?_)
              obtain rfl : 0 = r_29 := hw_30.symm
              refine lv_i2l (v := 0) hx hb dX12_digest_22 (by decide) ?_
              refine lv_ladd hx hb dX12_digest_23 ?_
              refine tz_l 831590949097 (by decide) ?_
              refine lv_lstore_n (lv' := [(1, .long 831590949097), (3, .int 5), (0, .ref mo)]) hx hb dX12_digest_24 rfl hl (by decide) rfl (fun ls hl => ?_)
              refine lv_iinc (v := 6) (lv' := [(3, .int 6), (1, .long 831590949097), (0, .ref mo)]) hx hb dX12_digest_25 hl (k := 1) rfl (by decide) (by decide) rfl (fun ls hl => ?_)
              refine lv_goto (tgt := 6) hx hb dX12_digest_28 (by decide) ?_
              refine lv_iload_n hx hb dX12_digest_6 rfl (lv_at hl 0 rfl) ?_
              refine lv_bipush (v := 6) hx hb dX12_digest_7 (by decide) ?_
              refine lv_icmp_ge (tgt := 31) hx hb dX12_digest_9 (by decide) (fun c_31 => ?_) (fun c_31 => ?_)
              · refine lv_aload_n hx hb dX12_digest_31 rfl (lv_at hl 2 rfl) ?_
                refine lv_lload_n hx hb dX12_digest_32 rfl (lv_at hl 1 rfl) ?_
                refine lv_iconst (v := 5) hx hb dX12_digest_33 (by decide) ?_
                refine lv_aload_n hx hb dX12_digest_34 rfl (lv_at hl 2 rfl) ?_
                refine va_get (D := (dC, dI)) (ci := 12) (v := .ref nw) (C := RX12) (T := TX12) (N := 24) hx hb hts iw_k_m_digest_X12 hown hK hP 0 rfl rfl 0 (by decide) (hts (.fieldLink RX12 7 "ThriceCountedModel" "now" "[I") (by decide +kernel)) (fun _ h9 => h9) rfl dX12_digest_35 ?_
                refine lv_iconst (v := 0) hx hb dX12_digest_38 (by decide) ?_
                refine va_iald hx hb hK hP 1 0 rfl rfl (show ¬ ((0 : Int32) < 0 ∨ 350 ≤ (0 : Int32).toNatClampNeg) by decide) dX12_digest_39 ?_
                refine tz_i 0 rfl ?_
                have hPc_32 := hP.sub (ws' := [(mo, .inr (12, [.ref nw, .ref kp, .ref ik, .ref mr, .long 0, .long 1, .ref mw, .long 0, .int 0, .int 0, .long 0, .long 0, .ref mq, .ref mz, .ref my, .int 0, .ref mb, .int 0, .int 0, .int 0, .int 0, .int 0, .ref mx, .ref mv])), (nw, .inl (cn, 350, .inl (fun _ => 0)))]) [0, 1] rfl
                have hKc_33 := hK.sub (tys' := [(cn, .int)]) [0] rfl
                refine vp_callSl (va_Run.run (va_runV (As := [.long 831590949097, .int 5, .int 0]) (rest := []) ⟨hx, hb, hml, hown, hts⟩ (k_sums0 l dC dI mo nw kp ik mr mw mq mz my mb mx mv cn 831590949097 5) (cwV 3 hts gX12_digest_X12_sums rfl rfl rfl (by decide +kernel) ⟨Nat.le_of_ble_eq_true rfl, Nat.le_of_ble_eq_true rfl⟩) ⟨fun a U g mk q => by obtain ⟨q0, qP, qK⟩ := q; exact ⟨q0, qP, va_K.moved (u := U) (U := U.calling g mk a) (Vm.Alike.refl U.vm) qK⟩, va_recv hK hP (ci := 12) (q0 := 0) rfl rfl, fun U hU hW => ⟨rfl, by rw [hU]; exact hPc_32, va_K.moved hW.alike hKc_33⟩⟩ rfl rfl hl.1 rfl (lv_room (Nat.le_of_ble_eq_true rfl)) dX12_digest_40 ⟨Nat.le_of_ble_eq_true rfl, Nat.le_of_ble_eq_true rfl⟩)) (fun r_34 hw_35 => ?_)
                obtain rfl : 831590949097 = r_34 := hw_35.symm
                refine lv_lstore_n (lv' := [(1, .long 831590949097), (3, .int 6), (0, .ref mo)]) hx hb dX12_digest_43 rfl hl (by decide) rfl (fun ls hl => ?_)
                refine lv_aload_n hx hb dX12_digest_44 rfl (lv_at hl 2 rfl) ?_
                refine lv_lload_n hx hb dX12_digest_45 rfl (lv_at hl 0 rfl) ?_
                refine lv_bipush (v := 10) hx hb dX12_digest_46 (by decide) ?_
                refine lv_iconst (v := 4) hx hb dX12_digest_48 (by decide) ?_
                refine lv_aload_n hx hb dX12_digest_49 rfl (lv_at hl 2 rfl) ?_
                refine va_get (D := (dC, dI)) (ci := 12) (v := .ref nw) (C := RX12) (T := TX12) (N := 24) hx hb hts iw_k_m_digest_X12 hown hK hP 0 rfl rfl 0 (by decide) (hts (.fieldLink RX12 7 "ThriceCountedModel" "now" "[I") (by decide +kernel)) (fun _ h9 => h9) rfl dX12_digest_50 ?_
                refine lv_iconst (v := 1) hx hb dX12_digest_53 (by decide) ?_
                refine va_iald hx hb hK hP 1 0 rfl rfl (show ¬ ((1 : Int32) < 0 ∨ 350 ≤ (1 : Int32).toNatClampNeg) by decide) dX12_digest_54 ?_
                refine tz_i 0 rfl ?_
                refine lv_imul hx hb dX12_digest_55 ?_
                refine tz_i 0 (by decide) ?_
                have hPc_36 := hP.sub (ws' := [(mo, .inr (12, [.ref nw, .ref kp, .ref ik, .ref mr, .long 0, .long 1, .ref mw, .long 0, .int 0, .int 0, .long 0, .long 0, .ref mq, .ref mz, .ref my, .int 0, .ref mb, .int 0, .int 0, .int 0, .int 0, .int 0, .ref mx, .ref mv])), (nw, .inl (cn, 350, .inl (fun _ => 0)))]) [0, 1] rfl
                have hKc_37 := hK.sub (tys' := [(cn, .int)]) [0] rfl
                refine vp_callSl (va_Run.run (va_runV (As := [.long 831590949097, .int 10, .int 0]) (rest := []) ⟨hx, hb, hml, hown, hts⟩ (k_sums0 l dC dI mo nw kp ik mr mw mq mz my mb mx mv cn 831590949097 10) (cwV 3 hts gX12_digest_X12_sums rfl rfl rfl (by decide +kernel) ⟨Nat.le_of_ble_eq_true rfl, Nat.le_of_ble_eq_true rfl⟩) ⟨fun a U g mk q => by obtain ⟨q0, qP, qK⟩ := q; exact ⟨q0, qP, va_K.moved (u := U) (U := U.calling g mk a) (Vm.Alike.refl U.vm) qK⟩, va_recv hK hP (ci := 12) (q0 := 0) rfl rfl, fun U hU hW => ⟨rfl, by rw [hU]; exact hPc_36, va_K.moved hW.alike hKc_37⟩⟩ rfl rfl hl.1 rfl (lv_room (Nat.le_of_ble_eq_true rfl)) dX12_digest_56 ⟨Nat.le_of_ble_eq_true rfl, Nat.le_of_ble_eq_true rfl⟩)) (fun r_38 hw_39 => ?_)
                obtain rfl : 831590949097 = r_38 := hw_39.symm
                refine lv_lstore_n (lv' := [(1, .long 831590949097), (3, .int 6), (0, .ref mo)]) hx hb dX12_digest_59 rfl hl (by decide) rfl (fun ls hl => ?_)
                refine lv_aload_n hx hb dX12_digest_60 rfl (lv_at hl 2 rfl) ?_
                refine lv_lload_n hx hb dX12_digest_61 rfl (lv_at hl 0 rfl) ?_
                refine lv_bipush (v := 30) hx hb dX12_digest_62 (by decide) ?_
                refine lv_iconst (v := 4) hx hb dX12_digest_64 (by decide) ?_
                refine lv_aload_n hx hb dX12_digest_65 rfl (lv_at hl 2 rfl) ?_
                refine va_get (D := (dC, dI)) (ci := 12) (v := .ref nw) (C := RX12) (T := TX12) (N := 24) hx hb hts iw_k_m_digest_X12 hown hK hP 0 rfl rfl 0 (by decide) (hts (.fieldLink RX12 7 "ThriceCountedModel" "now" "[I") (by decide +kernel)) (fun _ h9 => h9) rfl dX12_digest_66 ?_
                refine lv_iconst (v := 2) hx hb dX12_digest_69 (by decide) ?_
                refine va_iald hx hb hK hP 1 0 rfl rfl (show ¬ ((2 : Int32) < 0 ∨ 350 ≤ (2 : Int32).toNatClampNeg) by decide) dX12_digest_70 ?_
                refine tz_i 0 rfl ?_
                refine lv_imul hx hb dX12_digest_71 ?_
                refine tz_i 0 (by decide) ?_
                have hPc_40 := hP.sub (ws' := [(mo, .inr (12, [.ref nw, .ref kp, .ref ik, .ref mr, .long 0, .long 1, .ref mw, .long 0, .int 0, .int 0, .long 0, .long 0, .ref mq, .ref mz, .ref my, .int 0, .ref mb, .int 0, .int 0, .int 0, .int 0, .int 0, .ref mx, .ref mv])), (nw, .inl (cn, 350, .inl (fun _ => 0)))]) [0, 1] rfl
                have hKc_41 := hK.sub (tys' := [(cn, .int)]) [0] rfl
                refine vp_callSl (va_Run.run (va_runV (As := [.long 831590949097, .int 30, .int 0]) (rest := []) ⟨hx, hb, hml, hown, hts⟩ (k_sums0 l dC dI mo nw kp ik mr mw mq mz my mb mx mv cn 831590949097 30) (cwV 3 hts gX12_digest_X12_sums rfl rfl rfl (by decide +kernel) ⟨Nat.le_of_ble_eq_true rfl, Nat.le_of_ble_eq_true rfl⟩) ⟨fun a U g mk q => by obtain ⟨q0, qP, qK⟩ := q; exact ⟨q0, qP, va_K.moved (u := U) (U := U.calling g mk a) (Vm.Alike.refl U.vm) qK⟩, va_recv hK hP (ci := 12) (q0 := 0) rfl rfl, fun U hU hW => ⟨rfl, by rw [hU]; exact hPc_40, va_K.moved hW.alike hKc_41⟩⟩ rfl rfl hl.1 rfl (lv_room (Nat.le_of_ble_eq_true rfl)) dX12_digest_72 ⟨Nat.le_of_ble_eq_true rfl, Nat.le_of_ble_eq_true rfl⟩)) (fun r_42 hw_43 => ?_)
                obtain rfl : 831590949097 = r_42 := hw_43.symm
                refine lv_lstore_n (lv' := [(1, .long 831590949097), (3, .int 6), (0, .ref mo)]) hx hb dX12_digest_75 rfl hl (by decide) rfl (fun ls hl => ?_)
                refine lv_aload_n hx hb dX12_digest_76 rfl (lv_at hl 2 rfl) ?_
                refine lv_lload_n hx hb dX12_digest_77 rfl (lv_at hl 0 rfl) ?_
                refine lv_bipush (v := 62) hx hb dX12_digest_78 (by decide) ?_
                refine lv_iconst (v := 4) hx hb dX12_digest_80 (by decide) ?_
                refine lv_aload_n hx hb dX12_digest_81 rfl (lv_at hl 2 rfl) ?_
                refine va_get (D := (dC, dI)) (ci := 12) (v := .ref nw) (C := RX12) (T := TX12) (N := 24) hx hb hts iw_k_m_digest_X12 hown hK hP 0 rfl rfl 0 (by decide) (hts (.fieldLink RX12 7 "ThriceCountedModel" "now" "[I") (by decide +kernel)) (fun _ h9 => h9) rfl dX12_digest_82 ?_
                refine lv_iconst (v := 3) hx hb dX12_digest_85 (by decide) ?_
                refine va_iald hx hb hK hP 1 0 rfl rfl (show ¬ ((3 : Int32) < 0 ∨ 350 ≤ (3 : Int32).toNatClampNeg) by decide) dX12_digest_86 ?_
                refine tz_i 0 rfl ?_
                refine lv_imul hx hb dX12_digest_87 ?_
                refine tz_i 0 (by decide) ?_
                have hPc_44 := hP.sub (ws' := [(mo, .inr (12, [.ref nw, .ref kp, .ref ik, .ref mr, .long 0, .long 1, .ref mw, .long 0, .int 0, .int 0, .long 0, .long 0, .ref mq, .ref mz, .ref my, .int 0, .ref mb, .int 0, .int 0, .int 0, .int 0, .int 0, .ref mx, .ref mv])), (nw, .inl (cn, 350, .inl (fun _ => 0)))]) [0, 1] rfl
                have hKc_45 := hK.sub (tys' := [(cn, .int)]) [0] rfl
                refine vp_callSl (va_Run.run (va_runV (As := [.long 831590949097, .int 62, .int 0]) (rest := []) ⟨hx, hb, hml, hown, hts⟩ (k_sums0 l dC dI mo nw kp ik mr mw mq mz my mb mx mv cn 831590949097 62) (cwV 3 hts gX12_digest_X12_sums rfl rfl rfl (by decide +kernel) ⟨Nat.le_of_ble_eq_true rfl, Nat.le_of_ble_eq_true rfl⟩) ⟨fun a U g mk q => by obtain ⟨q0, qP, qK⟩ := q; exact ⟨q0, qP, va_K.moved (u := U) (U := U.calling g mk a) (Vm.Alike.refl U.vm) qK⟩, va_recv hK hP (ci := 12) (q0 := 0) rfl rfl, fun U hU hW => ⟨rfl, by rw [hU]; exact hPc_44, va_K.moved hW.alike hKc_45⟩⟩ rfl rfl hl.1 rfl (lv_room (Nat.le_of_ble_eq_true rfl)) dX12_digest_88 ⟨Nat.le_of_ble_eq_true rfl, Nat.le_of_ble_eq_true rfl⟩)) (fun r_46 hw_47 => ?_)
                obtain rfl : 831590949097 = r_46 := hw_47.symm
                refine lv_lstore_n (lv' := [(1, .long 831590949097), (3, .int 6), (0, .ref mo)]) hx hb dX12_digest_91 rfl hl (by decide) rfl (fun ls hl => ?_)
                refine lv_ldc2 hx hb hown (hts (.constantLong RX12 316 (31)) (by decide +kernel)) dX12_digest_92 ?_
                refine lv_ldc2 hx hb hown (hts (.constantLong RX12 316 (31)) (by decide +kernel)) dX12_digest_95 ?_
                refine lv_lload_n hx hb dX12_digest_98 rfl (lv_at hl 0 rfl) ?_
                refine lv_lmul hx hb dX12_digest_99 ?_
                refine tz_l 25779319422007 (by decide) ?_
                refine lv_aload_n hx hb dX12_digest_100 rfl (lv_at hl 2 rfl) ?_
                refine va_get (D := (dC, dI)) (ci := 12) (v := .long 0) (C := RX12) (T := TX12) (N := 24) hx hb hts iw_k_m_digest_X12 hown hK hP 0 rfl rfl 4 (by decide) (hts (.fieldLink RX12 148 "ThriceCountedModel" "above" "J") (by decide +kernel)) (fun _ h9 => h9) rfl dX12_digest_101 ?_
                refine lv_ladd hx hb dX12_digest_104 ?_
                refine tz_l 25779319422007 (by decide) ?_
                refine lv_lmul hx hb dX12_digest_105 ?_
                refine tz_l 799158902082217 (by decide) ?_
                refine lv_aload_n hx hb dX12_digest_106 rfl (lv_at hl 2 rfl) ?_
                refine va_get (D := (dC, dI)) (ci := 12) (v := .long 1) (C := RX12) (T := TX12) (N := 24) hx hb hts iw_k_m_digest_X12 hown hK hP 0 rfl rfl 5 (by decide) (hts (.fieldLink RX12 23 "ThriceCountedModel" "below" "J") (by decide +kernel)) (fun _ h9 => h9) rfl dX12_digest_107 ?_
                refine lv_ladd hx hb dX12_digest_110 ?_
                refine tz_l 799158902082218 (by decide) ?_
                exact W.lret (v := 799158902082218) hx hb hr (fun t ht hW => ⟨⟨799158902082218, (), rfl, rfl, trivial⟩, hS.F ht⟩) hS.2.2 dX12_digest_111
              · exact absurd c_31 (by decide)
