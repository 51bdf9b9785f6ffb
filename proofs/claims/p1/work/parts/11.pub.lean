set_option maxRecDepth 20000 in
theorem ggX11_findTruths_X6_size : GoodIn wsX11_findTruths wsX6_size := goodIn_r _ [10, 11, 100, 101, 102, 103] (by decide +kernel) (by decide +kernel)
set_option maxRecDepth 20000 in
theorem gX11_findTruths_X6_size : GoodIn wsX11_findTruths (wsV RX11 89 RX6 yX6_size wsX6_size) := goodIn_app (goodIn_of _ (by decide +kernel)) ggX11_findTruths_X6_size
theorem dX11_findTruths_0 : decode cX11_findTruths 0 = .ok (.iconst 0, 1) := by decide +kernel
theorem dX11_findTruths_1 : decode cX11_findTruths 1 = .ok (.istore_n 1, 1) := by decide +kernel
theorem dX11_findTruths_2 : decode cX11_findTruths 2 = .ok (.iload_n 1, 1) := by decide +kernel
theorem dX11_findTruths_3 : decode cX11_findTruths 3 = .ok (.aload_n 0, 1) := by decide +kernel
theorem dX11_findTruths_4 : decode cX11_findTruths 4 = .ok (.getfield 34, 3) := by decide +kernel
theorem dX11_findTruths_7 : decode cX11_findTruths 7 = .ok (.getfield 85, 3) := by decide +kernel
theorem dX11_findTruths_10 : decode cX11_findTruths 10 = .ok (.invokevirtual 89, 3) := by decide +kernel
theorem dX11_findTruths_13 : decode cX11_findTruths 13 = .ok (.if_icmp .ge 47, 3) := by decide +kernel
theorem dX11_findTruths_60 : decode cX11_findTruths 60 = .ok (.return_, 1) := by decide +kernel
set_option maxRecDepth 20000 in
theorem iw_k_findTruths_X11 : ∀ w ∈ wsX110, w ∈ wsX11_findTruths := by decide +kernel
set_option maxRecDepth 20000 in
theorem iw_k_findTruths_X0 : ∀ w ∈ wsX00, w ∈ wsX11_findTruths := by decide +kernel
set_option maxHeartbeats 4000000 in
set_option maxRecDepth 100000 in
theorem k_findTruths (l : Launch) (dC : Nat → ClassId) (dI : Nat → Nat → Nat) (o : Nat) (aw : Nat) (bk : Nat) (ai : Nat) (ak : Nat) (sc : Nat) (rd : Nat) (fo : Nat) (tx : Nat) (ar : Nat) (atr : Nat) (ao : Nat) (rk0 : Nat) (rk1 : Nat) (rk2 : Nat) (rk3 : Nat) (eak : Nat) (cak1 : Nat) : Met l yX11_findTruths wsX11_findTruths ({ frames := 1, cells := 0, slots := 0, locals := 20 }) (va_Pc [.ref o] (fun U => va_P (dC, dI) vwCl [(o, .inr (11, [.ref aw, .ref bk, .ref ai, .ref ak, .ref sc, .ref rd, .ref fo, .ref tx, .int 0, .ref ar, .ref atr, .ref ao])), (bk, .inr (0, [.ref rk0, .ref rk1, .ref rk2, .ref rk3, .ref eak, .int 0])), (rk1, .inr (6, [.int 4, .int 5, .ref cak1, .int 0]))] U.heap ∧ va_K (dC, dI) vwCl [] U)) (va_Sv (fun _ => True)) 0 0 (fun _ => False) := by
  refine Met.ofW (cc := cX11_findTruths) (maxL := 2) (ret := none) (by decide) rfl ?_
  intro p e s m args below meth c s₁ B hml hv
  obtain ⟨rfl, hP, hK⟩ := hv
  have hx := B.exec
  have hb := B.bytes
  have hr := B.returns
  have hts := atoms_spec (ws := wsX11_findTruths) B.pre
  have hown : s.vm.findClass RX11 = some m.cls := findClass_of_methodNamed B.named
  have hlocks := B.notSynchronized
  have hl := lv_entry ([.ref o]) (n := 2) (Nat.le_of_ble_eq_true rfl)
  rw [lg_entry_eq]
  generalize (lg_sl ([.ref o]) ++ List.replicate (2 - (lg_sl ([.ref o])).length) Slot.unset).toArray = ls at hl ⊢
  have hl : lv_has ls 2 [(0, .ref o)] := hl
  refine lv_iconst (v := 0) hx hb dX11_findTruths_0 (by decide) ?_
  refine lv_istore_n (lv' := [(1, .int 0), (0, .ref o)]) hx hb dX11_findTruths_1 rfl hl (by decide) rfl (fun ls hl => ?_)
  refine lv_iload_n hx hb dX11_findTruths_2 rfl (lv_at hl 0 rfl) ?_
  refine lv_aload_n hx hb dX11_findTruths_3 rfl (lv_at hl 1 rfl) ?_
  refine va_get (D := (dC, dI)) (ci := 11) (v := .ref bk) (C := RX11) (T := TX11) (N := 12) hx hb hts iw_k_findTruths_X11 hown hK hP 0 rfl rfl 1 (by decide) (hts (.fieldLink RX11 34 "ThriceCounted" "bank" "LThriceCounted$Bank;") (by decide +kernel)) (fun _ h9 => h9) rfl dX11_findTruths_4 ?_
  refine va_get (D := (dC, dI)) (ci := 0) (v := .ref rk1) (C := RX0) (T := TX0) (N := 6) hx hb hts iw_k_findTruths_X0 hown hK hP 1 rfl rfl 1 (by decide) (hts (.fieldLink RX11 85 "ThriceCounted$Bank" "bundles" "LThriceCounted$Rows;") (by decide +kernel)) (fun _ h9 => h9) rfl dX11_findTruths_7 ?_
  have hPc_1 := hP.sub (ws' := [(rk1, .inr (6, [.int 4, .int 5, .ref cak1, .int 0]))]) [2] rfl
  have hKc_2 := hK.sub (tys' := []) [] rfl
  refine vp_callSi (va_Run.run (va_runV (As := []) (rest := [.int 0]) ⟨hx, hb, hml, hown, hts⟩ (k_size l dC dI rk1 (.int 4) (.int 5) (.ref cak1) 0) (cwV 0 hts gX11_findTruths_X6_size rfl rfl rfl (by decide +kernel) ⟨Nat.le_of_ble_eq_true rfl, Nat.le_of_ble_eq_true rfl⟩) ⟨fun a U g mk q => by obtain ⟨q0, qP, qK⟩ := q; exact ⟨q0, qP, va_K.moved (u := U) (U := U.calling g mk a) (Vm.Alike.refl U.vm) qK⟩, va_recv hK hP (ci := 6) (q0 := 2) rfl rfl, fun U hU hW => ⟨rfl, by rw [hU]; exact hPc_1, va_K.moved hW.alike hKc_2⟩⟩ rfl rfl hl.1 rfl (lv_room (Nat.le_of_ble_eq_true rfl)) dX11_findTruths_10 ⟨Nat.le_of_ble_eq_true rfl, Nat.le_of_ble_eq_true rfl⟩)) (fun r_3 hw_4 => ?_)
  obtain rfl : 0 = r_3 := hw_4.symm
  refine lv_icmp_ge (tgt := 60) hx hb dX11_findTruths_13 (by decide) (fun c_5 => ?_) (fun c_5 => ?_)
  · exact W.vret hx hb hr (fun t ht hW => ⟨rfl, trivial, ht⟩) (fun _ h => absurd h List.not_mem_nil) dX11_findTruths_60
  · exact absurd c_5 (by decide)
set_option maxRecDepth 20000 in
theorem ggX11_listCauses_X6_size : GoodIn wsX11_listCauses wsX6_size := goodIn_r _ [8, 9, 38, 39, 40, 41] (by decide +kernel) (by decide +kernel)
set_option maxRecDepth 20000 in
theorem gX11_listCauses_X6_size : GoodIn wsX11_listCauses (wsV RX11 89 RX6 yX6_size wsX6_size) := goodIn_app (goodIn_of _ (by decide +kernel)) ggX11_listCauses_X6_size
theorem dX11_listCauses_0 : decode cX11_listCauses 0 = .ok (.iconst 0, 1) := by decide +kernel
theorem dX11_listCauses_1 : decode cX11_listCauses 1 = .ok (.istore_n 2, 1) := by decide +kernel
theorem dX11_listCauses_2 : decode cX11_listCauses 2 = .ok (.iconst 0, 1) := by decide +kernel
theorem dX11_listCauses_3 : decode cX11_listCauses 3 = .ok (.istore_n 3, 1) := by decide +kernel
theorem dX11_listCauses_4 : decode cX11_listCauses 4 = .ok (.iload_n 3, 1) := by decide +kernel
theorem dX11_listCauses_5 : decode cX11_listCauses 5 = .ok (.aload_n 0, 1) := by decide +kernel
theorem dX11_listCauses_6 : decode cX11_listCauses 6 = .ok (.getfield 34, 3) := by decide +kernel
theorem dX11_listCauses_9 : decode cX11_listCauses 9 = .ok (.getfield 227, 3) := by decide +kernel
theorem dX11_listCauses_12 : decode cX11_listCauses 12 = .ok (.invokevirtual 89, 3) := by decide +kernel
theorem dX11_listCauses_15 : decode cX11_listCauses 15 = .ok (.if_icmp .ge 44, 3) := by decide +kernel
theorem dX11_listCauses_59 : decode cX11_listCauses 59 = .ok (.iload_n 2, 1) := by decide +kernel
theorem dX11_listCauses_60 : decode cX11_listCauses 60 = .ok (.ireturn, 1) := by decide +kernel
set_option maxRecDepth 20000 in
theorem iw_k_listCauses_X11 : ∀ w ∈ wsX110, w ∈ wsX11_listCauses := by decide +kernel
set_option maxRecDepth 20000 in
theorem iw_k_listCauses_X0 : ∀ w ∈ wsX00, w ∈ wsX11_listCauses := by decide +kernel
set_option maxHeartbeats 4000000 in
set_option maxRecDepth 100000 in
theorem k_listCauses (l : Launch) (dC : Nat → ClassId) (dI : Nat → Nat → Nat) (o : Nat) (aw : Nat) (bk : Nat) (ai : Nat) (ak : Nat) (sc : Nat) (rd : Nat) (fo : Nat) (tx : Nat) (ar : Nat) (atr : Nat) (ao : Nat) (rk0 : Nat) (rk1 : Nat) (rk2 : Nat) (rk3 : Nat) (eak : Nat) (cak3 : Nat) (na : Int32) : Met l yX11_listCauses wsX11_listCauses ({ frames := 1, cells := 0, slots := 0, locals := 20 }) (va_Pc [.ref o, .int na] (fun U => va_P (dC, dI) vwCl [(o, .inr (11, [.ref aw, .ref bk, .ref ai, .ref ak, .ref sc, .ref rd, .ref fo, .ref tx, .int 0, .ref ar, .ref atr, .ref ao])), (bk, .inr (0, [.ref rk0, .ref rk1, .ref rk2, .ref rk3, .ref eak, .int 0])), (rk3, .inr (6, [.int 4, .int 6, .ref cak3, .int 0]))] U.heap ∧ va_K (dC, dI) vwCl [] U)) (vp_Si (fun r => r = 0)) 0 0 (fun _ => False) := by
  refine Met.ofW (cc := cX11_listCauses) (maxL := 4) (ret := (some .int)) (by decide) rfl ?_
  intro p e s m args below meth c s₁ B hml hv
  obtain ⟨rfl, hP, hK⟩ := hv
  have hx := B.exec
  have hb := B.bytes
  have hr := B.returns
  have hts := atoms_spec (ws := wsX11_listCauses) B.pre
  have hown : s.vm.findClass RX11 = some m.cls := findClass_of_methodNamed B.named
  have hlocks := B.notSynchronized
  have hl := lv_entry ([.ref o, .int na]) (n := 4) (Nat.le_of_ble_eq_true rfl)
  rw [lg_entry_eq]
  generalize (lg_sl ([.ref o, .int na]) ++ List.replicate (4 - (lg_sl ([.ref o, .int na])).length) Slot.unset).toArray = ls at hl ⊢
  have hl : lv_has ls 4 [(0, .ref o), (1, .int na)] := hl
  refine lv_iconst (v := 0) hx hb dX11_listCauses_0 (by decide) ?_
  refine lv_istore_n (lv' := [(2, .int 0), (0, .ref o), (1, .int na)]) hx hb dX11_listCauses_1 rfl hl (by decide) rfl (fun ls hl => ?_)
  refine lv_iconst (v := 0) hx hb dX11_listCauses_2 (by decide) ?_
  refine lv_istore_n (lv' := [(3, .int 0), (2, .int 0), (0, .ref o), (1, .int na)]) hx hb dX11_listCauses_3 rfl hl (by decide) rfl (fun ls hl => ?_)
  refine lv_iload_n hx hb dX11_listCauses_4 rfl (lv_at hl 0 rfl) ?_
  refine lv_aload_n hx hb dX11_listCauses_5 rfl (lv_at hl 2 rfl) ?_
  refine va_get (D := (dC, dI)) (ci := 11) (v := .ref bk) (C := RX11) (T := TX11) (N := 12) hx hb hts iw_k_listCauses_X11 hown hK hP 0 rfl rfl 1 (by decide) (hts (.fieldLink RX11 34 "ThriceCounted" "bank" "LThriceCounted$Bank;") (by decide +kernel)) (fun _ h9 => h9) rfl dX11_listCauses_6 ?_
  refine va_get (D := (dC, dI)) (ci := 0) (v := .ref rk3) (C := RX0) (T := TX0) (N := 6) hx hb hts iw_k_listCauses_X0 hown hK hP 1 rfl rfl 3 (by decide) (hts (.fieldLink RX11 227 "ThriceCounted$Bank" "causes" "LThriceCounted$Rows;") (by decide +kernel)) (fun _ h9 => h9) rfl dX11_listCauses_9 ?_
  have hPc_1 := hP.sub (ws' := [(rk3, .inr (6, [.int 4, .int 6, .ref cak3, .int 0]))]) [2] rfl
  have hKc_2 := hK.sub (tys' := []) [] rfl
  refine vp_callSi (va_Run.run (va_runV (As := []) (rest := [.int 0]) ⟨hx, hb, hml, hown, hts⟩ (k_size l dC dI rk3 (.int 4) (.int 6) (.ref cak3) 0) (cwV 0 hts gX11_listCauses_X6_size rfl rfl rfl (by decide +kernel) ⟨Nat.le_of_ble_eq_true rfl, Nat.le_of_ble_eq_true rfl⟩) ⟨fun a U g mk q => by obtain ⟨q0, qP, qK⟩ := q; exact ⟨q0, qP, va_K.moved (u := U) (U := U.calling g mk a) (Vm.Alike.refl U.vm) qK⟩, va_recv hK hP (ci := 6) (q0 := 2) rfl rfl, fun U hU hW => ⟨rfl, by rw [hU]; exact hPc_1, va_K.moved hW.alike hKc_2⟩⟩ rfl rfl hl.1 rfl (lv_room (Nat.le_of_ble_eq_true rfl)) dX11_listCauses_12 ⟨Nat.le_of_ble_eq_true rfl, Nat.le_of_ble_eq_true rfl⟩)) (fun r_3 hw_4 => ?_)
  obtain rfl : 0 = r_3 := hw_4.symm
  refine lv_icmp_ge (tgt := 59) hx hb dX11_listCauses_15 (by decide) (fun c_5 => ?_) (fun c_5 => ?_)
  · refine lv_iload_n hx hb dX11_listCauses_59 rfl (lv_at hl 1 rfl) ?_
    exact W.iret (v := 0) hx hb hr (fun t ht hW => ⟨0, rfl, rfl, ht⟩) (fun _ h => absurd h List.not_mem_nil) dX11_listCauses_60
  · exact absurd c_5 (by decide)
set_option maxRecDepth 20000 in
theorem ggX11_howMany_X6_size : GoodIn wsX11_howMany wsX6_size := goodIn_r _ [11, 12, 37, 38, 39, 40] (by decide +kernel) (by decide +kernel)
set_option maxRecDepth 20000 in
theorem gX11_howMany_X6_size : GoodIn wsX11_howMany (wsV RX11 89 RX6 yX6_size wsX6_size) := goodIn_app (goodIn_of _ (by decide +kernel)) ggX11_howMany_X6_size
set_option maxRecDepth 20000 in
theorem ggX11_howMany_X0_undos : GoodIn wsX11_howMany wsX0_undos := goodIn_r _ [17, 18, 31, 32, 33, 34, 35, 36] (by decide +kernel) (by decide +kernel)
set_option maxRecDepth 20000 in
theorem gX11_howMany_X0_undos : GoodIn wsX11_howMany (wsV RX11 291 RX0 yX0_undos wsX0_undos) := goodIn_app (goodIn_of _ (by decide +kernel)) ggX11_howMany_X0_undos
theorem dX11_howMany_0 : decode cX11_howMany 0 = .ok (.iload_n 1, 1) := by decide +kernel
theorem dX11_howMany_1 : decode cX11_howMany 1 = .ok (.tableswitch 87 0 4 #[35, 46, 57, 68, 79], 35) := by decide +kernel
theorem dX11_howMany_36 : decode cX11_howMany 36 = .ok (.aload_n 0, 1) := by decide +kernel
theorem dX11_howMany_37 : decode cX11_howMany 37 = .ok (.getfield 34, 3) := by decide +kernel
theorem dX11_howMany_40 : decode cX11_howMany 40 = .ok (.getfield 110, 3) := by decide +kernel
theorem dX11_howMany_43 : decode cX11_howMany 43 = .ok (.invokevirtual 89, 3) := by decide +kernel
theorem dX11_howMany_46 : decode cX11_howMany 46 = .ok (.ireturn, 1) := by decide +kernel
theorem dX11_howMany_47 : decode cX11_howMany 47 = .ok (.aload_n 0, 1) := by decide +kernel
theorem dX11_howMany_48 : decode cX11_howMany 48 = .ok (.getfield 34, 3) := by decide +kernel
theorem dX11_howMany_51 : decode cX11_howMany 51 = .ok (.getfield 85, 3) := by decide +kernel
theorem dX11_howMany_54 : decode cX11_howMany 54 = .ok (.invokevirtual 89, 3) := by decide +kernel
theorem dX11_howMany_57 : decode cX11_howMany 57 = .ok (.ireturn, 1) := by decide +kernel
theorem dX11_howMany_58 : decode cX11_howMany 58 = .ok (.aload_n 0, 1) := by decide +kernel
theorem dX11_howMany_59 : decode cX11_howMany 59 = .ok (.getfield 34, 3) := by decide +kernel
theorem dX11_howMany_62 : decode cX11_howMany 62 = .ok (.getfield 138, 3) := by decide +kernel
theorem dX11_howMany_65 : decode cX11_howMany 65 = .ok (.invokevirtual 89, 3) := by decide +kernel
theorem dX11_howMany_68 : decode cX11_howMany 68 = .ok (.ireturn, 1) := by decide +kernel
theorem dX11_howMany_69 : decode cX11_howMany 69 = .ok (.aload_n 0, 1) := by decide +kernel
theorem dX11_howMany_70 : decode cX11_howMany 70 = .ok (.getfield 34, 3) := by decide +kernel
theorem dX11_howMany_73 : decode cX11_howMany 73 = .ok (.getfield 227, 3) := by decide +kernel
theorem dX11_howMany_76 : decode cX11_howMany 76 = .ok (.invokevirtual 89, 3) := by decide +kernel
theorem dX11_howMany_79 : decode cX11_howMany 79 = .ok (.ireturn, 1) := by decide +kernel
theorem dX11_howMany_80 : decode cX11_howMany 80 = .ok (.aload_n 0, 1) := by decide +kernel
theorem dX11_howMany_81 : decode cX11_howMany 81 = .ok (.getfield 34, 3) := by decide +kernel
theorem dX11_howMany_84 : decode cX11_howMany 84 = .ok (.invokevirtual 291, 3) := by decide +kernel
theorem dX11_howMany_87 : decode cX11_howMany 87 = .ok (.ireturn, 1) := by decide +kernel
theorem dX11_howMany_88 : decode cX11_howMany 88 = .ok (.aload_n 0, 1) := by decide +kernel
theorem dX11_howMany_89 : decode cX11_howMany 89 = .ok (.getfield 71, 3) := by decide +kernel
theorem dX11_howMany_92 : decode cX11_howMany 92 = .ok (.ireturn, 1) := by decide +kernel
set_option maxRecDepth 20000 in
theorem iw_k_howMany_X11 : ∀ w ∈ wsX110, w ∈ wsX11_howMany := by decide +kernel
set_option maxRecDepth 20000 in
theorem iw_k_howMany_X0 : ∀ w ∈ wsX00, w ∈ wsX11_howMany := by decide +kernel
set_option maxHeartbeats 4000000 in
set_option maxRecDepth 100000 in
theorem k_howMany (l : Launch) (dC : Nat → ClassId) (dI : Nat → Nat → Nat) (o : Nat) (aw : Nat) (bk : Nat) (ai : Nat) (ak : Nat) (sc : Nat) (rd : Nat) (fo : Nat) (tx : Nat) (ar : Nat) (atr : Nat) (ao : Nat) (rk0 : Nat) (rk1 : Nat) (rk2 : Nat) (rk3 : Nat) (eak : Nat) (cak0 : Nat) (cak1 : Nat) (cak2 : Nat) (cak3 : Nat) (na : Int32) (hna : 0 ≤ na ∧ na ≤ 5) : Met l yX11_howMany wsX11_howMany ({ frames := 1, cells := 0, slots := 0, locals := 20 }) (va_Pc [.ref o, .int na] (fun U => va_P (dC, dI) vwCl [(o, .inr (11, [.ref aw, .ref bk, .ref ai, .ref ak, .ref sc, .ref rd, .ref fo, .ref tx, .int 0, .ref ar, .ref atr, .ref ao])), (bk, .inr (0, [.ref rk0, .ref rk1, .ref rk2, .ref rk3, .ref eak, .int 0])), (rk0, .inr (6, [.int 1, .int 5, .ref cak0, .int 0])), (rk1, .inr (6, [.int 4, .int 5, .ref cak1, .int 0])), (rk2, .inr (6, [.int 4, .int 8, .ref cak2, .int 0])), (rk3, .inr (6, [.int 4, .int 6, .ref cak3, .int 0]))] U.heap ∧ va_K (dC, dI) vwCl [] U)) (vp_Si (fun r => r = 0)) 0 0 (fun _ => False) := by
  refine Met.ofW (cc := cX11_howMany) (maxL := 2) (ret := (some .int)) (by decide) rfl ?_
  intro p e s m args below meth c s₁ B hml hv
  obtain ⟨rfl, hP, hK⟩ := hv
  have hx := B.exec
  have hb := B.bytes
  have hr := B.returns
  have hts := atoms_spec (ws := wsX11_howMany) B.pre
  have hown : s.vm.findClass RX11 = some m.cls := findClass_of_methodNamed B.named
  have hlocks := B.notSynchronized
  have hl := lv_entry ([.ref o, .int na]) (n := 2) (Nat.le_of_ble_eq_true rfl)
  rw [lg_entry_eq]
  generalize (lg_sl ([.ref o, .int na]) ++ List.replicate (2 - (lg_sl ([.ref o, .int na])).length) Slot.unset).toArray = ls at hl ⊢
  have hl : lv_has ls 2 [(0, .ref o), (1, .int na)] := hl
  refine lv_iload_n hx hb dX11_howMany_0 rfl (lv_at hl 1 rfl) ?_
  rcases (tz_six hna) with rfl | rfl | rfl | rfl | rfl | rfl
  · refine lv_tableIn (off := 35) (tgt := 36) hx hb dX11_howMany_1 (by decide) (by decide) (by decide) (by decide) ?_
    refine lv_aload_n hx hb dX11_howMany_36 rfl (lv_at hl 0 rfl) ?_
    refine va_get (D := (dC, dI)) (ci := 11) (v := .ref bk) (C := RX11) (T := TX11) (N := 12) hx hb hts iw_k_howMany_X11 hown hK hP 0 rfl rfl 1 (by decide) (hts (.fieldLink RX11 34 "ThriceCounted" "bank" "LThriceCounted$Bank;") (by decide +kernel)) (fun _ h9 => h9) rfl dX11_howMany_37 ?_
    refine va_get (D := (dC, dI)) (ci := 0) (v := .ref rk0) (C := RX0) (T := TX0) (N := 6) hx hb hts iw_k_howMany_X0 hown hK hP 1 rfl rfl 0 (by decide) (hts (.fieldLink RX11 110 "ThriceCounted$Bank" "clerks" "LThriceCounted$Rows;") (by decide +kernel)) (fun _ h9 => h9) rfl dX11_howMany_40 ?_
    have hPc_1 := hP.sub (ws' := [(rk0, .inr (6, [.int 1, .int 5, .ref cak0, .int 0]))]) [2] rfl
    have hKc_2 := hK.sub (tys' := []) [] rfl
    refine vp_callSi (va_Run.run (va_runV (As := []) (rest := []) ⟨hx, hb, hml, hown, hts⟩ (k_size l dC dI rk0 (.int 1) (.int 5) (.ref cak0) 0) (cwV 0 hts gX11_howMany_X6_size rfl rfl rfl (by decide +kernel) ⟨Nat.le_of_ble_eq_true rfl, Nat.le_of_ble_eq_true rfl⟩) ⟨fun a U g mk q => by obtain ⟨q0, qP, qK⟩ := q; exact ⟨q0, qP, va_K.moved (u := U) (U := U.calling g mk a) (Vm.Alike.refl U.vm) qK⟩, va_recv hK hP (ci := 6) (q0 := 2) rfl rfl, fun U hU hW => ⟨rfl, by rw [hU]; exact hPc_1, va_K.moved hW.alike hKc_2⟩⟩ rfl rfl hl.1 rfl (lv_room (Nat.le_of_ble_eq_true rfl)) dX11_howMany_43 ⟨Nat.le_of_ble_eq_true rfl, Nat.le_of_ble_eq_true rfl⟩)) (fun r_3 hw_4 => ?_)
    obtain rfl : 0 = r_3 := hw_4.symm
    exact W.iret (v := 0) hx hb hr (fun t ht hW => ⟨0, rfl, rfl, ht⟩) (fun _ h => absurd h List.not_mem_nil) dX11_howMany_46
  · refine lv_tableIn (off := 46) (tgt := 47) hx hb dX11_howMany_1 (by decide) (by decide) (by decide) (by decide) ?_
    refine lv_aload_n hx hb dX11_howMany_47 rfl (lv_at hl 0 rfl) ?_
    refine va_get (D := (dC, dI)) (ci := 11) (v := .ref bk) (C := RX11) (T := TX11) (N := 12) hx hb hts iw_k_howMany_X11 hown hK hP 0 rfl rfl 1 (by decide) (hts (.fieldLink RX11 34 "ThriceCounted" "bank" "LThriceCounted$Bank;") (by decide +kernel)) (fun _ h9 => h9) rfl dX11_howMany_48 ?_
    refine va_get (D := (dC, dI)) (ci := 0) (v := .ref rk1) (C := RX0) (T := TX0) (N := 6) hx hb hts iw_k_howMany_X0 hown hK hP 1 rfl rfl 1 (by decide) (hts (.fieldLink RX11 85 "ThriceCounted$Bank" "bundles" "LThriceCounted$Rows;") (by decide +kernel)) (fun _ h9 => h9) rfl dX11_howMany_51 ?_
    have hPc_5 := hP.sub (ws' := [(rk1, .inr (6, [.int 4, .int 5, .ref cak1, .int 0]))]) [3] rfl
    have hKc_6 := hK.sub (tys' := []) [] rfl
    refine vp_callSi (va_Run.run (va_runV (As := []) (rest := []) ⟨hx, hb, hml, hown, hts⟩ (k_size l dC dI rk1 (.int 4) (.int 5) (.ref cak1) 0) (cwV 0 hts gX11_howMany_X6_size rfl rfl rfl (by decide +kernel) ⟨Nat.le_of_ble_eq_true rfl, Nat.le_of_ble_eq_true rfl⟩) ⟨fun a U g mk q => by obtain ⟨q0, qP, qK⟩ := q; exact ⟨q0, qP, va_K.moved (u := U) (U := U.calling g mk a) (Vm.Alike.refl U.vm) qK⟩, va_recv hK hP (ci := 6) (q0 := 3) rfl rfl, fun U hU hW => ⟨rfl, by rw [hU]; exact hPc_5, va_K.moved hW.alike hKc_6⟩⟩ rfl rfl hl.1 rfl (lv_room (Nat.le_of_ble_eq_true rfl)) dX11_howMany_54 ⟨Nat.le_of_ble_eq_true rfl, Nat.le_of_ble_eq_true rfl⟩)) (fun r_7 hw_8 => ?_)
    obtain rfl : 0 = r_7 := hw_8.symm
    exact W.iret (v := 0) hx hb hr (fun t ht hW => ⟨0, rfl, rfl, ht⟩) (fun _ h => absurd h List.not_mem_nil) dX11_howMany_57
  · refine lv_tableIn (off := 57) (tgt := 58) hx hb dX11_howMany_1 (by decide) (by decide) (by decide) (by decide) ?_
    refine lv_aload_n hx hb dX11_howMany_58 rfl (lv_at hl 0 rfl) ?_
    refine va_get (D := (dC, dI)) (ci := 11) (v := .ref bk) (C := RX11) (T := TX11) (N := 12) hx hb hts iw_k_howMany_X11 hown hK hP 0 rfl rfl 1 (by decide) (hts (.fieldLink RX11 34 "ThriceCounted" "bank" "LThriceCounted$Bank;") (by decide +kernel)) (fun _ h9 => h9) rfl dX11_howMany_59 ?_
    refine va_get (D := (dC, dI)) (ci := 0) (v := .ref rk2) (C := RX0) (T := TX0) (N := 6) hx hb hts iw_k_howMany_X0 hown hK hP 1 rfl rfl 2 (by decide) (hts (.fieldLink RX11 138 "ThriceCounted$Bank" "counts" "LThriceCounted$Rows;") (by decide +kernel)) (fun _ h9 => h9) rfl dX11_howMany_62 ?_
    have hPc_9 := hP.sub (ws' := [(rk2, .inr (6, [.int 4, .int 8, .ref cak2, .int 0]))]) [4] rfl
    have hKc_10 := hK.sub (tys' := []) [] rfl
    refine vp_callSi (va_Run.run (va_runV (As := []) (rest := []) ⟨hx, hb, hml, hown, hts⟩ (k_size l dC dI rk2 (.int 4) (.int 8) (.ref cak2) 0) (cwV 0 hts gX11_howMany_X6_size rfl rfl rfl (by decide +kernel) ⟨Nat.le_of_ble_eq_true rfl, Nat.le_of_ble_eq_true rfl⟩) ⟨fun a U g mk q => by obtain ⟨q0, qP, qK⟩ := q; exact ⟨q0, qP, va_K.moved (u := U) (U := U.calling g mk a) (Vm.Alike.refl U.vm) qK⟩, va_recv hK hP (ci := 6) (q0 := 4) rfl rfl, fun U hU hW => ⟨rfl, by rw [hU]; exact hPc_9, va_K.moved hW.alike hKc_10⟩⟩ rfl rfl hl.1 rfl (lv_room (Nat.le_of_ble_eq_true rfl)) dX11_howMany_65 ⟨Nat.le_of_ble_eq_true rfl, Nat.le_of_ble_eq_true rfl⟩)) (fun r_11 hw_12 => ?_)
    obtain rfl : 0 = r_11 := hw_12.symm
    exact W.iret (v := 0) hx hb hr (fun t ht hW => ⟨0, rfl, rfl, ht⟩) (fun _ h => absurd h List.not_mem_nil) dX11_howMany_68
  · refine lv_tableIn (off := 68) (tgt := 69) hx hb dX11_howMany_1 (by decide) (by decide) (by decide) (by decide) ?_
    refine lv_aload_n hx hb dX11_howMany_69 rfl (lv_at hl 0 rfl) ?_
    refine va_get (D := (dC, dI)) (ci := 11) (v := .ref bk) (C := RX11) (T := TX11) (N := 12) hx hb hts iw_k_howMany_X11 hown hK hP 0 rfl rfl 1 (by decide) (hts (.fieldLink RX11 34 "ThriceCounted" "bank" "LThriceCounted$Bank;") (by decide +kernel)) (fun _ h9 => h9) rfl dX11_howMany_70 ?_
    refine va_get (D := (dC, dI)) (ci := 0) (v := .ref rk3) (C := RX0) (T := TX0) (N := 6) hx hb hts iw_k_howMany_X0 hown hK hP 1 rfl rfl 3 (by decide) (hts (.fieldLink RX11 227 "ThriceCounted$Bank" "causes" "LThriceCounted$Rows;") (by decide +kernel)) (fun _ h9 => h9) rfl dX11_howMany_73 ?_
    have hPc_13 := hP.sub (ws' := [(rk3, .inr (6, [.int 4, .int 6, .ref cak3, .int 0]))]) [5] rfl
    have hKc_14 := hK.sub (tys' := []) [] rfl
    refine vp_callSi (va_Run.run (va_runV (As := []) (rest := []) ⟨hx, hb, hml, hown, hts⟩ (k_size l dC dI rk3 (.int 4) (.int 6) (.ref cak3) 0) (cwV 0 hts gX11_howMany_X6_size rfl rfl rfl (by decide +kernel) ⟨Nat.le_of_ble_eq_true rfl, Nat.le_of_ble_eq_true rfl⟩) ⟨fun a U g mk q => by obtain ⟨q0, qP, qK⟩ := q; exact ⟨q0, qP, va_K.moved (u := U) (U := U.calling g mk a) (Vm.Alike.refl U.vm) qK⟩, va_recv hK hP (ci := 6) (q0 := 5) rfl rfl, fun U hU hW => ⟨rfl, by rw [hU]; exact hPc_13, va_K.moved hW.alike hKc_14⟩⟩ rfl rfl hl.1 rfl (lv_room (Nat.le_of_ble_eq_true rfl)) dX11_howMany_76 ⟨Nat.le_of_ble_eq_true rfl, Nat.le_of_ble_eq_true rfl⟩)) (fun r_15 hw_16 => ?_)
    obtain rfl : 0 = r_15 := hw_16.symm
    exact W.iret (v := 0) hx hb hr (fun t ht hW => ⟨0, rfl, rfl, ht⟩) (fun _ h => absurd h List.not_mem_nil) dX11_howMany_79
  · refine lv_tableIn (off := 79) (tgt := 80) hx hb dX11_howMany_1 (by decide) (by decide) (by decide) (by decide) ?_
    refine lv_aload_n hx hb dX11_howMany_80 rfl (lv_at hl 0 rfl) ?_
    refine va_get (D := (dC, dI)) (ci := 11) (v := .ref bk) (C := RX11) (T := TX11) (N := 12) hx hb hts iw_k_howMany_X11 hown hK hP 0 rfl rfl 1 (by decide) (hts (.fieldLink RX11 34 "ThriceCounted" "bank" "LThriceCounted$Bank;") (by decide +kernel)) (fun _ h9 => h9) rfl dX11_howMany_81 ?_
    have hPc_17 := hP.sub (ws' := [(bk, .inr (0, [.ref rk0, .ref rk1, .ref rk2, .ref rk3, .ref eak, .int 0]))]) [1] rfl
    have hKc_18 := hK.sub (tys' := []) [] rfl
    refine vp_callSi (va_Run.run (va_runV (As := []) (rest := []) ⟨hx, hb, hml, hown, hts⟩ (k_undos l dC dI bk (.ref rk0) (.ref rk1) (.ref rk2) (.ref rk3) (.ref eak) 0) (cwV 0 hts gX11_howMany_X0_undos rfl rfl rfl (by decide +kernel) ⟨Nat.le_of_ble_eq_true rfl, Nat.le_of_ble_eq_true rfl⟩) ⟨fun a U g mk q => by obtain ⟨q0, qP, qK⟩ := q; exact ⟨q0, qP, va_K.moved (u := U) (U := U.calling g mk a) (Vm.Alike.refl U.vm) qK⟩, va_recv hK hP (ci := 0) (q0 := 1) rfl rfl, fun U hU hW => ⟨rfl, by rw [hU]; exact hPc_17, va_K.moved hW.alike hKc_18⟩⟩ rfl rfl hl.1 rfl (lv_room (Nat.le_of_ble_eq_true rfl)) dX11_howMany_84 ⟨Nat.le_of_ble_eq_true rfl, Nat.le_of_ble_eq_true rfl⟩)) (fun r_19 hw_20 => ?_)
    obtain rfl : 0 = r_19 := hw_20.symm
    exact W.iret (v := 0) hx hb hr (fun t ht hW => ⟨0, rfl, rfl, ht⟩) (fun _ h => absurd h List.not_mem_nil) dX11_howMany_87
  · refine lv_tableOut (tgt := 88) hx hb dX11_howMany_1 (by decide) (by decide) ?_
    refine lv_aload_n hx hb dX11_howMany_88 rfl (lv_at hl 0 rfl) ?_
    refine va_get (D := (dC, dI)) (ci := 11) (v := .int 0) (C := RX11) (T := TX11) (N := 12) hx hb hts iw_k_howMany_X11 hown hK hP 0 rfl rfl 8 (by decide) (hts (.fieldLink RX11 71 "ThriceCounted" "typed" "I") (by decide +kernel)) (fun _ h9 => h9) rfl dX11_howMany_89 ?_
    exact W.iret (v := 0) hx hb hr (fun t ht hW => ⟨0, rfl, rfl, ht⟩) (fun _ h => absurd h List.not_mem_nil) dX11_howMany_92
set_option maxRecDepth 20000 in
theorem ggX11_bank_X6_size : GoodIn wsX11_bank wsX6_size := goodIn_r _ [11, 12, 55, 56, 57, 58] (by decide +kernel) (by decide +kernel)
set_option maxRecDepth 20000 in
theorem gX11_bank_X6_size : GoodIn wsX11_bank (wsV RX11 89 RX6 yX6_size wsX6_size) := goodIn_app (goodIn_of _ (by decide +kernel)) ggX11_bank_X6_size
set_option maxRecDepth 20000 in
theorem ggX11_bank_X0_empty : GoodIn wsX11_bank wsX0_empty := goodIn_r _ [17, 18, 19, 20, 21, 22, 23, 24, 25, 10, 26, 12, 49, 50, 51, 52, 53, 54, 55, 56, 57, 58] (by decide +kernel) (by decide +kernel)
set_option maxRecDepth 20000 in
theorem gX11_bank_X0_empty : GoodIn wsX11_bank (wsV RX11 95 RX0 yX0_empty wsX0_empty) := goodIn_app (goodIn_of _ (by decide +kernel)) ggX11_bank_X0_empty
set_option maxRecDepth 20000 in
theorem ggX11_bank_X2_become : GoodIn wsX11_bank wsX2_become := goodIn_r _ [31, 32, 33, 34, 35, 30, 36, 59, 60] (by decide +kernel) (by decide +kernel)
set_option maxRecDepth 20000 in
theorem gX11_bank_X2_become : GoodIn wsX11_bank (wsV RX11 98 RX2 yX2_become wsX2_become) := goodIn_app (goodIn_of _ (by decide +kernel)) ggX11_bank_X2_become
theorem dX11_bank_0 : decode cX11_bank 0 = .ok (.aload_n 0, 1) := by decide +kernel
theorem dX11_bank_1 : decode cX11_bank 1 = .ok (.getfield 34, 3) := by decide +kernel
theorem dX11_bank_4 : decode cX11_bank 4 = .ok (.getfield 85, 3) := by decide +kernel
theorem dX11_bank_7 : decode cX11_bank 7 = .ok (.invokevirtual 89, 3) := by decide +kernel
theorem dX11_bank_10 : decode cX11_bank 10 = .ok (.istore_n 1, 1) := by decide +kernel
theorem dX11_bank_11 : decode cX11_bank 11 = .ok (.aload_n 0, 1) := by decide +kernel
theorem dX11_bank_12 : decode cX11_bank 12 = .ok (.getfield 34, 3) := by decide +kernel
theorem dX11_bank_15 : decode cX11_bank 15 = .ok (.invokevirtual 95, 3) := by decide +kernel
theorem dX11_bank_18 : decode cX11_bank 18 = .ok (.aload_n 0, 1) := by decide +kernel
theorem dX11_bank_19 : decode cX11_bank 19 = .ok (.iconst 0, 1) := by decide +kernel
theorem dX11_bank_20 : decode cX11_bank 20 = .ok (.putfield 71, 3) := by decide +kernel
theorem dX11_bank_23 : decode cX11_bank 23 = .ok (.aload_n 0, 1) := by decide +kernel
theorem dX11_bank_24 : decode cX11_bank 24 = .ok (.getfield 63, 3) := by decide +kernel
theorem dX11_bank_27 : decode cX11_bank 27 = .ok (.lconst 0, 1) := by decide +kernel
theorem dX11_bank_28 : decode cX11_bank 28 = .ok (.lconst 1, 1) := by decide +kernel
theorem dX11_bank_29 : decode cX11_bank 29 = .ok (.invokevirtual 98, 3) := by decide +kernel
theorem dX11_bank_32 : decode cX11_bank 32 = .ok (.iconst 0, 1) := by decide +kernel
theorem dX11_bank_33 : decode cX11_bank 33 = .ok (.istore_n 2, 1) := by decide +kernel
theorem dX11_bank_34 : decode cX11_bank 34 = .ok (.iload_n 2, 1) := by decide +kernel
theorem dX11_bank_35 : decode cX11_bank 35 = .ok (.aload_n 0, 1) := by decide +kernel
theorem dX11_bank_36 : decode cX11_bank 36 = .ok (.getfield 42, 3) := by decide +kernel
theorem dX11_bank_39 : decode cX11_bank 39 = .ok (.arraylength, 1) := by decide +kernel
theorem dX11_bank_40 : decode cX11_bank 40 = .ok (.if_icmp .ge 16, 3) := by decide +kernel
theorem dX11_bank_43 : decode cX11_bank 43 = .ok (.aload_n 0, 1) := by decide +kernel
theorem dX11_bank_44 : decode cX11_bank 44 = .ok (.getfield 42, 3) := by decide +kernel
theorem dX11_bank_47 : decode cX11_bank 47 = .ok (.iload_n 2, 1) := by decide +kernel
theorem dX11_bank_48 : decode cX11_bank 48 = .ok (.iconst 0, 1) := by decide +kernel
theorem dX11_bank_49 : decode cX11_bank 49 = .ok (.bastore, 1) := by decide +kernel
theorem dX11_bank_50 : decode cX11_bank 50 = .ok (.iinc 2 1, 3) := by decide +kernel
theorem dX11_bank_53 : decode cX11_bank 53 = .ok (.goto (-19), 3) := by decide +kernel
theorem dX11_bank_56 : decode cX11_bank 56 = .ok (.iconst 0, 1) := by decide +kernel
theorem dX11_bank_57 : decode cX11_bank 57 = .ok (.istore_n 2, 1) := by decide +kernel
theorem dX11_bank_58 : decode cX11_bank 58 = .ok (.iload_n 2, 1) := by decide +kernel
theorem dX11_bank_59 : decode cX11_bank 59 = .ok (.aload_n 0, 1) := by decide +kernel
theorem dX11_bank_60 : decode cX11_bank 60 = .ok (.getfield 75, 3) := by decide +kernel
theorem dX11_bank_63 : decode cX11_bank 63 = .ok (.arraylength, 1) := by decide +kernel
theorem dX11_bank_64 : decode cX11_bank 64 = .ok (.if_icmp .ge 16, 3) := by decide +kernel
theorem dX11_bank_67 : decode cX11_bank 67 = .ok (.aload_n 0, 1) := by decide +kernel
theorem dX11_bank_68 : decode cX11_bank 68 = .ok (.getfield 75, 3) := by decide +kernel
theorem dX11_bank_71 : decode cX11_bank 71 = .ok (.iload_n 2, 1) := by decide +kernel
theorem dX11_bank_72 : decode cX11_bank 72 = .ok (.iconst 0, 1) := by decide +kernel
theorem dX11_bank_73 : decode cX11_bank 73 = .ok (.iastore, 1) := by decide +kernel
theorem dX11_bank_74 : decode cX11_bank 74 = .ok (.iinc 2 1, 3) := by decide +kernel
theorem dX11_bank_77 : decode cX11_bank 77 = .ok (.goto (-19), 3) := by decide +kernel
theorem dX11_bank_80 : decode cX11_bank 80 = .ok (.iload_n 1, 1) := by decide +kernel
theorem dX11_bank_81 : decode cX11_bank 81 = .ok (.ireturn, 1) := by decide +kernel
set_option maxRecDepth 20000 in
theorem iw_k_x_bank_X11 : ∀ w ∈ wsX110, w ∈ wsX11_bank := by decide +kernel
set_option maxRecDepth 20000 in
theorem iw_k_x_bank_X0 : ∀ w ∈ wsX00, w ∈ wsX11_bank := by decide +kernel
set_option maxHeartbeats 4000000 in
set_option maxRecDepth 100000 in
theorem k_x_bank (l : Launch) (dC : Nat → ClassId) (dI : Nat → Nat → Nat) (o : Nat) (aw : Nat) (bk : Nat) (ai : Nat) (ak : Nat) (sc : Nat) (rd : Nat) (fo : Nat) (tx : Nat) (ar : Nat) (atr : Nat) (ao : Nat) (rk0 : Nat) (rk1 : Nat) (rk2 : Nat) (rk3 : Nat) (eak : Nat) (cak0 : Nat) (cak1 : Nat) (cak2 : Nat) (cak3 : Nat) (ck : ClassId) (cr : ClassId) (sz : Nat) : Met l yX11_bank wsX11_bank ({ frames := 2, cells := 0, slots := 0, locals := 56 }) (va_Pc [.ref o] (fun U => U.heap.size = sz ∧ va_P (dC, dI) vwCl [(o, .inr (11, [.ref aw, .ref bk, .ref ai, .ref ak, .ref sc, .ref rd, .ref fo, .ref tx, .int 0, .ref ar, .ref atr, .ref ao])), (bk, .inr (0, [.ref rk0, .ref rk1, .ref rk2, .ref rk3, .ref eak, .int 0])), (rk0, .inr (6, [.int 1, .int 5, .ref cak0, .int 0])), (rk1, .inr (6, [.int 4, .int 5, .ref cak1, .int 0])), (rk2, .inr (6, [.int 4, .int 8, .ref cak2, .int 0])), (rk3, .inr (6, [.int 4, .int 6, .ref cak3, .int 0])), (fo, .inr (2, [.long 0, .long 1])), (ak, .inl (ck, 2, .inl (fun _ => 0))), (ar, .inl (cr, 3, .inl (fun _ => 0)))] U.heap ∧ va_K (dC, dI) vwCl [(ck, .boolean), (cr, .int)] U ∧ va_D (fun _ => True) [(o, .inr (11, [.ref aw, .ref bk, .ref ai, .ref ak, .ref sc, .ref rd, .ref fo, .ref tx, .int 0, .ref ar, .ref atr, .ref ao])), (bk, .inr (0, [.ref rk0, .ref rk1, .ref rk2, .ref rk3, .ref eak, .int 0])), (rk0, .inr (6, [.int 1, .int 5, .ref cak0, .int 0])), (rk1, .inr (6, [.int 4, .int 5, .ref cak1, .int 0])), (rk2, .inr (6, [.int 4, .int 8, .ref cak2, .int 0])), (rk3, .inr (6, [.int 4, .int 6, .ref cak3, .int 0])), (fo, .inr (2, [.long 0, .long 1])), (ak, .inl (ck, 2, .inl (fun _ => 0))), (ar, .inl (cr, 3, .inl (fun _ => 0)))])) (va_Qi (fun (r : Int32) (_ : Unit) => r = 0) (fun _ _ => True) (va_A [(o, .inr (11, [.ref aw, .ref bk, .ref ai, .ref ak, .ref sc, .ref rd, .ref fo, .ref tx, .int 0, .ref ar, .ref atr, .ref ao])), (bk, .inr (0, [.ref rk0, .ref rk1, .ref rk2, .ref rk3, .ref eak, .int 0])), (rk0, .inr (6, [.int 1, .int 5, .ref cak0, .int 0])), (rk1, .inr (6, [.int 4, .int 5, .ref cak1, .int 0])), (rk2, .inr (6, [.int 4, .int 8, .ref cak2, .int 0])), (rk3, .inr (6, [.int 4, .int 6, .ref cak3, .int 0])), (fo, .inr (2, [.long 0, .long 1])), (ak, .inl (ck, 2, .inl (fun _ => 0))), (ar, .inl (cr, 3, .inl (fun _ => 0)))] sz)) 0 0 (va_A [(o, .inr (11, [.ref aw, .ref bk, .ref ai, .ref ak, .ref sc, .ref rd, .ref fo, .ref tx, .int 0, .ref ar, .ref atr, .ref ao])), (bk, .inr (0, [.ref rk0, .ref rk1, .ref rk2, .ref rk3, .ref eak, .int 0])), (rk0, .inr (6, [.int 1, .int 5, .ref cak0, .int 0])), (rk1, .inr (6, [.int 4, .int 5, .ref cak1, .int 0])), (rk2, .inr (6, [.int 4, .int 8, .ref cak2, .int 0])), (rk3, .inr (6, [.int 4, .int 6, .ref cak3, .int 0])), (fo, .inr (2, [.long 0, .long 1])), (ak, .inl (ck, 2, .inl (fun _ => 0))), (ar, .inl (cr, 3, .inl (fun _ => 0)))] sz) := by
  refine Met.ofW (cc := cX11_bank) (maxL := 3) (ret := (some .int)) (by decide) rfl ?_
  intro p e s m args below meth c s₁ B hml hv
  obtain ⟨rfl, hsz, hP, hK, hD0⟩ := hv
  have hx := B.exec
  have hb := B.bytes
  have hr := B.returns
  have hts := atoms_spec (ws := wsX11_bank) B.pre
  have hown : s.vm.findClass RX11 = some m.cls := findClass_of_methodNamed B.named
  have hlocks := B.notSynchronized
  subst hsz
  have hD := hD0.self (sz := s.heap.size)
  generalize hAe : va_A [(o, .inr (11, [.ref aw, .ref bk, .ref ai, .ref ak, .ref sc, .ref rd, .ref fo, .ref tx, .int 0, .ref ar, .ref atr, .ref ao])), (bk, .inr (0, [.ref rk0, .ref rk1, .ref rk2, .ref rk3, .ref eak, .int 0])), (rk0, .inr (6, [.int 1, .int 5, .ref cak0, .int 0])), (rk1, .inr (6, [.int 4, .int 5, .ref cak1, .int 0])), (rk2, .inr (6, [.int 4, .int 8, .ref cak2, .int 0])), (rk3, .inr (6, [.int 4, .int 6, .ref cak3, .int 0])), (fo, .inr (2, [.long 0, .long 1])), (ak, .inl (ck, 2, .inl (fun _ => 0))), (ar, .inl (cr, 3, .inl (fun _ => 0)))] s.heap.size = A at hD ⊢
  have hA : ∀ q : Nat, s.heap.size ≤ q → A q := fun q h => by rw [← hAe]; exact Or.inr h
  have hS : va_S A s.heap s.heap [] := va_S.rf
  have hP : va_P (dC, dI) vwCl [(o, .inr (11, [.ref aw, .ref bk, .ref ai, .ref ak, .ref sc, .ref rd, .ref fo, .ref tx, .int 0, .ref ar, .ref atr, .ref ao])), (bk, .inr (0, [.ref rk0, .ref rk1, .ref rk2, .ref rk3, .ref eak, .int 0])), (rk0, .inr (6, [.int 1, .int 5, .ref cak0, .int 0])), (rk1, .inr (6, [.int 4, .int 5, .ref cak1, .int 0])), (rk2, .inr (6, [.int 4, .int 8, .ref cak2, .int 0])), (rk3, .inr (6, [.int 4, .int 6, .ref cak3, .int 0])), (fo, .inr (2, [.long 0, .long 1])), (ak, .inl (ck, 2, .inl (fun _ => 0))), (ar, .inl (cr, 3, .inl (fun _ => 0)))] s.heap := hP
  have hl := lv_entry ([.ref o]) (n := 3) (Nat.le_of_ble_eq_true rfl)
  rw [lg_entry_eq]
  generalize (lg_sl ([.ref o]) ++ List.replicate (3 - (lg_sl ([.ref o])).length) Slot.unset).toArray = ls at hl ⊢
  have hl : lv_has ls 3 [(0, .ref o)] := hl
  refine lv_aload_n hx hb dX11_bank_0 rfl (lv_at hl 0 rfl) ?_
  refine va_get (D := (dC, dI)) (ci := 11) (v := .ref bk) (C := RX11) (T := TX11) (N := 12) hx hb hts iw_k_x_bank_X11 hown hK hP 0 rfl rfl 1 (by decide) (hts (.fieldLink RX11 34 "ThriceCounted" "bank" "LThriceCounted$Bank;") (by decide +kernel)) (fun _ h9 => h9) rfl dX11_bank_1 ?_
  refine va_get (D := (dC, dI)) (ci := 0) (v := .ref rk1) (C := RX0) (T := TX0) (N := 6) hx hb hts iw_k_x_bank_X0 hown hK hP 1 rfl rfl 1 (by decide) (hts (.fieldLink RX11 85 "ThriceCounted$Bank" "bundles" "LThriceCounted$Rows;") (by decide +kernel)) (fun _ h9 => h9) rfl dX11_bank_4 ?_
  have hPc_1 := hP.sub (ws' := [(rk1, .inr (6, [.int 4, .int 5, .ref cak1, .int 0]))]) [3] rfl
  have hKc_2 := hK.sub (tys' := []) [] rfl
  refine vp_callSi (va_Run.run (va_runV (As := []) (rest := []) ⟨hx, hb, hml, hown, hts⟩ (k_size l dC dI rk1 (.int 4) (.int 5) (.ref cak1) 0) (cwV 0 hts gX11_bank_X6_size rfl rfl rfl (by decide +kernel) ⟨Nat.le_of_ble_eq_true rfl, Nat.le_of_ble_eq_true rfl⟩) ⟨fun a U g mk q => by obtain ⟨q0, qP, qK⟩ := q; exact ⟨q0, qP, va_K.moved (u := U) (U := U.calling g mk a) (Vm.Alike.refl U.vm) qK⟩, va_recv hK hP (ci := 6) (q0 := 3) rfl rfl, fun U hU hW => ⟨rfl, by rw [hU]; exact hPc_1, va_K.moved hW.alike hKc_2⟩⟩ rfl rfl hl.1 rfl (lv_room (Nat.le_of_ble_eq_true rfl)) dX11_bank_7 ⟨Nat.le_of_ble_eq_true rfl, Nat.le_of_ble_eq_true rfl⟩)) (fun r_3 hw_4 => ?_)
  obtain rfl : 0 = r_3 := hw_4.symm
  refine lv_istore_n (lv' := [(1, .int 0), (0, .ref o)]) hx hb dX11_bank_10 rfl hl (by decide) rfl (fun ls hl => ?_)
  refine lv_aload_n hx hb dX11_bank_11 rfl (lv_at hl 1 rfl) ?_
  refine va_get (D := (dC, dI)) (ci := 11) (v := .ref bk) (C := RX11) (T := TX11) (N := 12) hx hb hts iw_k_x_bank_X11 hown hK hP 0 rfl rfl 1 (by decide) (hts (.fieldLink RX11 34 "ThriceCounted" "bank" "LThriceCounted$Bank;") (by decide +kernel)) (fun _ h9 => h9) rfl dX11_bank_12 ?_
  have hPc := hP.sub (ws' := [(bk, .inr (0, [.ref rk0, .ref rk1, .ref rk2, .ref rk3, .ref eak, .int 0])), (rk0, .inr (6, [.int 1, .int 5, .ref cak0, .int 0])), (rk1, .inr (6, [.int 4, .int 5, .ref cak1, .int 0])), (rk2, .inr (6, [.int 4, .int 8, .ref cak2, .int 0])), (rk3, .inr (6, [.int 4, .int 6, .ref cak3, .int 0]))]) [1, 2, 3, 4, 5] rfl
  have hDc := hD.sub (ws' := [(bk, .inr (0, [.ref rk0, .ref rk1, .ref rk2, .ref rk3, .ref eak, .int 0])), (rk0, .inr (6, [.int 1, .int 5, .ref cak0, .int 0])), (rk1, .inr (6, [.int 4, .int 5, .ref cak1, .int 0])), (rk2, .inr (6, [.int 4, .int 8, .ref cak2, .int 0])), (rk3, .inr (6, [.int 4, .int 6, .ref cak3, .int 0]))]) [1, 2, 3, 4, 5] (by decide) rfl
  have hKc := hK.sub (tys' := []) [] rfl
  have hFc := va_free (wc := [(bk, .inr (0, [.ref rk0, .ref rk1, .ref rk2, .ref rk3, .ref eak, .int 0])), (rk0, .inr (6, [.int 1, .int 5, .ref cak0, .int 0])), (rk1, .inr (6, [.int 4, .int 5, .ref cak1, .int 0])), (rk2, .inr (6, [.int 4, .int 8, .ref cak2, .int 0])), (rk3, .inr (6, [.int 4, .int 6, .ref cak3, .int 0]))]) hD hS hA [1, 2, 3, 4, 5] rfl
  refine va_callv (va_runV (As := []) (rest := []) ⟨hx, hb, hml, hown, hts⟩ (k_bempty l dC dI bk rk0 rk1 rk2 rk3 (.ref eak) (.int 0) (.int 1) (.int 5) (.ref cak0) (.int 0) (.int 4) (.int 5) (.ref cak1) (.int 0) (.int 4) (.int 8) (.ref cak2) (.int 0) (.int 4) (.int 6) (.ref cak3) (.int 0) s.heap.size) (cwV 0 hts gX11_bank_X0_empty rfl rfl rfl (by decide +kernel) ⟨Nat.le_of_ble_eq_true rfl, Nat.le_of_ble_eq_true rfl⟩) ⟨fun a U g mk q => by obtain ⟨q0, q1, qP, qK, qD⟩ := q; exact ⟨q0, q1, qP, va_K.moved (u := U) (U := U.calling g mk a) (Vm.Alike.refl U.vm) qK, qD⟩, va_recv hK hP (ci := 0) (q0 := 1) rfl rfl, fun U hU hW => ⟨rfl, by rw [hU], by rw [hU]; exact hPc, va_K.moved hW.alike hKc, hDc.weaken (fun _ _ _ _ => trivial)⟩⟩ rfl rfl hl.1 rfl (lv_room (Nat.le_of_ble_eq_true rfl)) dX11_bank_15 ⟨Nat.le_of_ble_eq_true rfl, Nat.le_of_ble_eq_true rfl⟩) hS (fun q _ h => hFc q h) hFc (fun u_ t H1 locs ht hvm hw_6 hB hz1 hk1 hS => ?_)
  obtain ⟨hP, hD⟩ := va_join (wr := [(o, .inr (11, [.ref aw, .ref bk, .ref ai, .ref ak, .ref sc, .ref rd, .ref fo, .ref tx, .int 0, .ref ar, .ref atr, .ref ao])), (fo, .inr (2, [.long 0, .long 1])), (ak, .inl (ck, 2, .inl (fun _ => 0))), (ar, .inl (cr, 3, .inl (fun _ => 0)))]) (w1 := []) hP hD [1, 2, 3, 4, 5] [0, 6, 7, 8] rfl rfl (by decide) (by decide) hk1 hFc tz_P0 tz_D0
  generalize H1 = H at hP hS ⊢
  have hP : va_P (dC, dI) vwCl [(o, .inr (11, [.ref aw, .ref bk, .ref ai, .ref ak, .ref sc, .ref rd, .ref fo, .ref tx, .int 0, .ref ar, .ref atr, .ref ao])), (fo, .inr (2, [.long 0, .long 1])), (ak, .inl (ck, 2, .inl (fun _ => 0))), (ar, .inl (cr, 3, .inl (fun _ => 0)))] H := hP
  have hD : va_D A [(o, .inr (11, [.ref aw, .ref bk, .ref ai, .ref ak, .ref sc, .ref rd, .ref fo, .ref tx, .int 0, .ref ar, .ref atr, .ref ao])), (fo, .inr (2, [.long 0, .long 1])), (ak, .inl (ck, 2, .inl (fun _ => 0))), (ar, .inl (cr, 3, .inl (fun _ => 0)))] := hD
  refine lv_aload_n hx hb dX11_bank_18 rfl (lv_at hl 1 rfl) ?_
  refine lv_iconst (v := 0) hx hb dX11_bank_19 (by decide) ?_
  refine va_put (D := (dC, dI)) (ci := 11) (v := .int 0) (ty := .int) (C := RX11) (T := TX11) (N := 12) hx hb hts iw_k_x_bank_X11 tyX11 tyX11_ok nmX11 hown hK hP hD hS 0 rfl rfl 8 (by decide) (hts (.fieldLink RX11 71 "ThriceCounted" "typed" "I") (by decide +kernel)) (fun _ h9 => h9) rfl (by decide +kernel) rfl rfl (Nat.le_of_ble_eq_true rfl) dX11_bank_20 (fun H locs hP hD hS => ?_)
  have hP : va_P (dC, dI) vwCl [(o, .inr (11, [.ref aw, .ref bk, .ref ai, .ref ak, .ref sc, .ref rd, .ref fo, .ref tx, .int 0, .ref ar, .ref atr, .ref ao])), (fo, .inr (2, [.long 0, .long 1])), (ak, .inl (ck, 2, .inl (fun _ => 0))), (ar, .inl (cr, 3, .inl (fun _ => 0)))] H := hP
  have hD : va_D A [(o, .inr (11, [.ref aw, .ref bk, .ref ai, .ref ak, .ref sc, .ref rd, .ref fo, .ref tx, .int 0, .ref ar, .ref atr, .ref ao])), (fo, .inr (2, [.long 0, .long 1])), (ak, .inl (ck, 2, .inl (fun _ => 0))), (ar, .inl (cr, 3, .inl (fun _ => 0)))] := hD
  refine lv_aload_n hx hb dX11_bank_23 rfl (lv_at hl 1 rfl) ?_
  refine va_get (D := (dC, dI)) (ci := 11) (v := .ref fo) (C := RX11) (T := TX11) (N := 12) hx hb hts iw_k_x_bank_X11 hown hK hP 0 rfl rfl 6 (by decide) (hts (.fieldLink RX11 63 "ThriceCounted" "fraction" "LThriceCounted$Fraction;") (by decide +kernel)) (fun _ h9 => h9) rfl dX11_bank_24 ?_
  refine lv_lconst (v := 0) hx hb dX11_bank_27 (by decide) ?_
  refine lv_lconst (v := 1) hx hb dX11_bank_28 (by decide) ?_
  have hPc := hP.sub (ws' := [(fo, .inr (2, [.long 0, .long 1]))]) [1] rfl
  have hDc := hD.sub (ws' := [(fo, .inr (2, [.long 0, .long 1]))]) [1] (by decide) rfl
  have hKc := hK.sub (tys' := []) [] rfl
  have hFc := va_free (wc := [(fo, .inr (2, [.long 0, .long 1]))]) hD hS hA [1] rfl
  refine va_callv (va_runV (As := [.long 0, .long 1]) (rest := []) ⟨hx, hb, hml, hown, hts⟩ (k_become01 l dC dI fo (.long 0) (.long 1) H.size) (cwV 2 hts gX11_bank_X2_become rfl rfl rfl (by decide +kernel) ⟨Nat.le_of_ble_eq_true rfl, Nat.le_of_ble_eq_true rfl⟩) ⟨fun a U g mk q => by obtain ⟨q0, q1, qP, qK, qD⟩ := q; exact ⟨q0, q1, qP, va_K.moved (u := U) (U := U.calling g mk a) (Vm.Alike.refl U.vm) qK, qD⟩, va_recv hK hP (ci := 2) (q0 := 1) rfl rfl, fun U hU hW => ⟨rfl, by rw [hU], by rw [hU]; exact hPc, va_K.moved hW.alike hKc, hDc.weaken (fun _ _ _ _ => trivial)⟩⟩ rfl rfl hl.1 rfl (lv_room (Nat.le_of_ble_eq_true rfl)) dX11_bank_29 ⟨Nat.le_of_ble_eq_true rfl, Nat.le_of_ble_eq_true rfl⟩) hS (fun q _ h => hFc q h) hFc (fun u_ t H1 locs ht hvm hw_8 hB hz1 hk1 hS => ?_)
  obtain ⟨hP, hD⟩ := va_join (wr := [(o, .inr (11, [.ref aw, .ref bk, .ref ai, .ref ak, .ref sc, .ref rd, .ref fo, .ref tx, .int 0, .ref ar, .ref atr, .ref ao])), (ak, .inl (ck, 2, .inl (fun _ => 0))), (ar, .inl (cr, 3, .inl (fun _ => 0)))]) (w1 := []) hP hD [1] [0, 2, 3] rfl rfl (by decide) (by decide) hk1 hFc tz_P0 tz_D0
  generalize H1 = H at hP hS ⊢
  have hP : va_P (dC, dI) vwCl [(o, .inr (11, [.ref aw, .ref bk, .ref ai, .ref ak, .ref sc, .ref rd, .ref fo, .ref tx, .int 0, .ref ar, .ref atr, .ref ao])), (ak, .inl (ck, 2, .inl (fun _ => 0))), (ar, .inl (cr, 3, .inl (fun _ => 0)))] H := hP
  have hD : va_D A [(o, .inr (11, [.ref aw, .ref bk, .ref ai, .ref ak, .ref sc, .ref rd, .ref fo, .ref tx, .int 0, .ref ar, .ref atr, .ref ao])), (ak, .inl (ck, 2, .inl (fun _ => 0))), (ar, .inl (cr, 3, .inl (fun _ => 0)))] := hD
  refine lv_iconst (v := 0) hx hb dX11_bank_32 (by decide) ?_
  refine lv_istore_n (lv' := [(2, .int 0), (1, .int 0), (0, .ref o)]) hx hb dX11_bank_33 rfl hl (by decide) rfl (fun ls hl => ?_)
  refine lv_iload_n hx hb dX11_bank_34 rfl (lv_at hl 0 rfl) ?_
  refine lv_aload_n hx hb dX11_bank_35 rfl (lv_at hl 2 rfl) ?_
  refine va_get (D := (dC, dI)) (ci := 11) (v := .ref ak) (C := RX11) (T := TX11) (N := 12) hx hb hts iw_k_x_bank_X11 hown hK hP 0 rfl rfl 3 (by decide) (hts (.fieldLink RX11 42 "ThriceCounted" "kept" "[Z") (by decide +kernel)) (fun _ h9 => h9) rfl dX11_bank_36 ?_
  refine va_alen (v := 2) hx hb hK hP 1 0 rfl rfl rfl dX11_bank_39 ?_
  refine lv_icmp_ge (tgt := 56) hx hb dX11_bank_40 (by decide) (fun c_9 => ?_) (fun c_9 => ?_)
  · exact absurd c_9 (by decide)
  · refine lv_aload_n hx hb dX11_bank_43 rfl (lv_at hl 2 rfl) ?_
    refine va_get (D := (dC, dI)) (ci := 11) (v := .ref ak) (C := RX11) (T := TX11) (N := 12) hx hb hts iw_k_x_bank_X11 hown hK hP 0 rfl rfl 3 (by decide) (hts (.fieldLink RX11 42 "ThriceCounted" "kept" "[Z") (by decide +kernel)) (fun _ h9 => h9) rfl dX11_bank_44 ?_
    refine lv_iload_n hx hb dX11_bank_47 rfl (lv_at hl 0 rfl) ?_
    refine lv_iconst (v := 0) hx hb dX11_bank_48 (by decide) ?_
    refine va_zast hx hb hK hP hD hS 1 0 rfl rfl (show ¬ ((0 : Int32) < 0 ∨ 2 ≤ (0 : Int32).toNatClampNeg) by decide) dX11_bank_49 (fun H locs hP hD hS => ?_)
    generalize (upd (fun _ => 0) (Int32.toNatClampNeg 0) (vp_nar .boolean 0)) = f_10 at hP hD
    have hP : va_P (dC, dI) vwCl [(o, .inr (11, [.ref aw, .ref bk, .ref ai, .ref ak, .ref sc, .ref rd, .ref fo, .ref tx, .int 0, .ref ar, .ref atr, .ref ao])), (ak, .inl (ck, 2, .inl f_10)), (ar, .inl (cr, 3, .inl (fun _ => 0)))] H := hP
    have hD : va_D A [(o, .inr (11, [.ref aw, .ref bk, .ref ai, .ref ak, .ref sc, .ref rd, .ref fo, .ref tx, .int 0, .ref ar, .ref atr, .ref ao])), (ak, .inl (ck, 2, .inl f_10)), (ar, .inl (cr, 3, .inl (fun _ => 0)))] := hD
    refine lv_iinc (v := 1) (lv' := [(2, .int 1), (1, .int 0), (0, .ref o)]) hx hb dX11_bank_50 hl (k := 0) rfl (by decide) (by decide) rfl (fun ls hl => ?_)
    refine lv_goto (tgt := 34) hx hb dX11_bank_53 (by decide) ?_
    refine lv_iload_n hx hb dX11_bank_34 rfl (lv_at hl 0 rfl) ?_
    refine lv_aload_n hx hb dX11_bank_35 rfl (lv_at hl 2 rfl) ?_
    refine va_get (D := (dC, dI)) (ci := 11) (v := .ref ak) (C := RX11) (T := TX11) (N := 12) hx hb hts iw_k_x_bank_X11 hown hK hP 0 rfl rfl 3 (by decide) (hts (.fieldLink RX11 42 "ThriceCounted" "kept" "[Z") (by decide +kernel)) (fun _ h9 => h9) rfl dX11_bank_36 ?_
    refine va_alen (v := 2) hx hb hK hP 1 0 rfl rfl rfl dX11_bank_39 ?_
    refine lv_icmp_ge (tgt := 56) hx hb dX11_bank_40 (by decide) (fun c_11 => ?_) (fun c_11 => ?_)
    · exact absurd c_11 (by decide)
    · refine lv_aload_n hx hb dX11_bank_43 rfl (lv_at hl 2 rfl) ?_
      refine va_get (D := (dC, dI)) (ci := 11) (v := .ref ak) (C := RX11) (T := TX11) (N := 12) hx hb hts iw_k_x_bank_X11 hown hK hP 0 rfl rfl 3 (by decide) (hts (.fieldLink RX11 42 "ThriceCounted" "kept" "[Z") (by decide +kernel)) (fun _ h9 => h9) rfl dX11_bank_44 ?_
      refine lv_iload_n hx hb dX11_bank_47 rfl (lv_at hl 0 rfl) ?_
      refine lv_iconst (v := 0) hx hb dX11_bank_48 (by decide) ?_
      refine va_zast hx hb hK hP hD hS 1 0 rfl rfl (show ¬ ((1 : Int32) < 0 ∨ 2 ≤ (1 : Int32).toNatClampNeg) by decide) dX11_bank_49 (fun H locs hP hD hS => ?_)
      generalize (upd f_10 (Int32.toNatClampNeg 1) (vp_nar .boolean 0)) = f_12 at hP hD
      have hP : va_P (dC, dI) vwCl [(o, .inr (11, [.ref aw, .ref bk, .ref ai, .ref ak, .ref sc, .ref rd, .ref fo, .ref tx, .int 0, .ref ar, .ref atr, .ref ao])), (ak, .inl (ck, 2, .inl f_12)), (ar, .inl (cr, 3, .inl (fun _ => 0)))] H := hP
      have hD : va_D A [(o, .inr (11, [.ref aw, .ref bk, .ref ai, .ref ak, .ref sc, .ref rd, .ref fo, .ref tx, .int 0, .ref ar, .ref atr, .ref ao])), (ak, .inl (ck, 2, .inl f_12)), (ar, .inl (cr, 3, .inl (fun _ => 0)))] := hD
      refine lv_iinc (v := 2) (lv' := [(2, .int 2), (1, .int 0), (0, .ref o)]) hx hb dX11_bank_50 hl (k := 0) rfl (by decide) (by decide) rfl (fun ls hl => ?_)
      refine lv_goto (tgt := 34) hx hb dX11_bank_53 (by decide) ?_
      refine lv_iload_n hx hb dX11_bank_34 rfl (lv_at hl 0 rfl) ?_
      refine lv_aload_n hx hb dX11_bank_35 rfl (lv_at hl 2 rfl) ?_
      refine va_get (D := (dC, dI)) (ci := 11) (v := .ref ak) (C := RX11) (T := TX11) (N := 12) hx hb hts iw_k_x_bank_X11 hown hK hP 0 rfl rfl 3 (by decide) (hts (.fieldLink RX11 42 "ThriceCounted" "kept" "[Z") (by decide +kernel)) (fun _ h9 => h9) rfl dX11_bank_36 ?_
      refine va_alen (v := 2) hx hb hK hP 1 0 rfl rfl rfl dX11_bank_39 ?_
      refine lv_icmp_ge (tgt := 56) hx hb dX11_bank_40 (by decide) (fun c_13 => ?_) (fun c_13 => ?_)
      · refine lv_iconst (v := 0) hx hb dX11_bank_56 (by decide) ?_
        refine lv_istore_n (lv' := [(2, .int 0), (1, .int 0), (0, .ref o)]) hx hb dX11_bank_57 rfl hl (by decide) rfl (fun ls hl => ?_)
        refine lv_iload_n hx hb dX11_bank_58 rfl (lv_at hl 0 rfl) ?_
        refine lv_aload_n hx hb dX11_bank_59 rfl (lv_at hl 2 rfl) ?_
        refine va_get (D := (dC, dI)) (ci := 11) (v := .ref ar) (C := RX11) (T := TX11) (N := 12) hx hb hts iw_k_x_bank_X11 hown hK hP 0 rfl rfl 9 (by decide) (hts (.fieldLink RX11 75 "ThriceCounted" "refused" "[I") (by decide +kernel)) (fun _ h9 => h9) rfl dX11_bank_60 ?_
        refine va_alen (v := 3) hx hb hK hP 2 1 rfl rfl rfl dX11_bank_63 ?_
        refine lv_icmp_ge (tgt := 80) hx hb dX11_bank_64 (by decide) (fun c_14 => ?_) (fun c_14 => ?_)
        · exact absurd c_14 (by decide)
        · refine lv_aload_n hx hb dX11_bank_67 rfl (lv_at hl 2 rfl) ?_
          refine va_get (D := (dC, dI)) (ci := 11) (v := .ref ar) (C := RX11) (T := TX11) (N := 12) hx hb hts iw_k_x_bank_X11 hown hK hP 0 rfl rfl 9 (by decide) (hts (.fieldLink RX11 75 "ThriceCounted" "refused" "[I") (by decide +kernel)) (fun _ h9 => h9) rfl dX11_bank_68 ?_
          refine lv_iload_n hx hb dX11_bank_71 rfl (lv_at hl 0 rfl) ?_
          refine lv_iconst (v := 0) hx hb dX11_bank_72 (by decide) ?_
          refine va_iast hx hb hK hP hD hS 2 1 rfl rfl (show ¬ ((0 : Int32) < 0 ∨ 3 ≤ (0 : Int32).toNatClampNeg) by decide) dX11_bank_73 (fun H locs hP hD hS => ?_)
          generalize (upd (fun _ => 0) (Int32.toNatClampNeg 0) 0) = f_15 at hP hD
          have hP : va_P (dC, dI) vwCl [(o, .inr (11, [.ref aw, .ref bk, .ref ai, .ref ak, .ref sc, .ref rd, .ref fo, .ref tx, .int 0, .ref ar, .ref atr, .ref ao])), (ak, .inl (ck, 2, .inl f_12)), (ar, .inl (cr, 3, .inl f_15))] H := hP
          have hD : va_D A [(o, .inr (11, [.ref aw, .ref bk, .ref ai, .ref ak, .ref sc, .ref rd, .ref fo, .ref tx, .int 0, .ref ar, .ref atr, .ref ao])), (ak, .inl (ck, 2, .inl f_12)), (ar, .inl (cr, 3, .inl f_15))] := hD
          refine lv_iinc (v := 1) (lv' := [(2, .int 1), (1, .int 0), (0, .ref o)]) hx hb dX11_bank_74 hl (k := 0) rfl (by decide) (by decide) rfl (fun ls hl => ?_)
          refine lv_goto (tgt := 58) hx hb dX11_bank_77 (by decide) ?_
          refine lv_iload_n hx hb dX11_bank_58 rfl (lv_at hl 0 rfl) ?_
          refine lv_aload_n hx hb dX11_bank_59 rfl (lv_at hl 2 rfl) ?_
          refine va_get (D := (dC, dI)) (ci := 11) (v := .ref ar) (C := RX11) (T := TX11) (N := 12) hx hb hts iw_k_x_bank_X11 hown hK hP 0 rfl rfl 9 (by decide) (hts (.fieldLink RX11 75 "ThriceCounted" "refused" "[I") (by decide +kernel)) (fun _ h9 => h9) rfl dX11_bank_60 ?_
          refine va_alen (v := 3) hx hb hK hP 2 1 rfl rfl rfl dX11_bank_63 ?_
          refine lv_icmp_ge (tgt := 80) hx hb dX11_bank_64 (by decide) (fun c_16 => ?_) (fun c_16 => ?_)
          · exact absurd c_16 (by decide)
          · refine lv_aload_n hx hb dX11_bank_67 rfl (lv_at hl 2 rfl) ?_
            refine va_get (D := (dC, dI)) (ci := 11) (v := .ref ar) (C := RX11) (T := TX11) (N := 12) hx hb hts iw_k_x_bank_X11 hown hK hP 0 rfl rfl 9 (by decide) (hts (.fieldLink RX11 75 "ThriceCounted" "refused" "[I") (by decide +kernel)) (fun _ h9 => h9) rfl dX11_bank_68 ?_
            refine lv_iload_n hx hb dX11_bank_71 rfl (lv_at hl 0 rfl) ?_
            refine lv_iconst (v := 0) hx hb dX11_bank_72 (by decide) ?_
            refine va_iast hx hb hK hP hD hS 2 1 rfl rfl (show ¬ ((1 : Int32) < 0 ∨ 3 ≤ (1 : Int32).toNatClampNeg) by decide) dX11_bank_73 (fun H locs hP hD hS => ?_)
            generalize (upd f_15 (Int32.toNatClampNeg 1) 0) = f_17 at hP hD
            have hP : va_P (dC, dI) vwCl [(o, .inr (11, [.ref aw, .ref bk, .ref ai, .ref ak, .ref sc, .ref rd, .ref fo, .ref tx, .int 0, .ref ar, .ref atr, .ref ao])), (ak, .inl (ck, 2, .inl f_12)), (ar, .inl (cr, 3, .inl f_17))] H := hP
            have hD : va_D A [(o, .inr (11, [.ref aw, .ref bk, .ref ai, .ref ak, .ref sc, .ref rd, .ref fo, .ref tx, .int 0, .ref ar, .ref atr, .ref ao])), (ak, .inl (ck, 2, .inl f_12)), (ar, .inl (cr, 3, .inl f_17))] := hD
            refine lv_iinc (v := 2) (lv' := [(2, .int 2), (1, .int 0), (0, .ref o)]) hx hb dX11_bank_74 hl (k := 0) rfl (by decide) (by decide) rfl (fun ls hl => ?_)
            refine lv_goto (tgt := 58) hx hb dX11_bank_77 (by decide) ?_
            refine lv_iload_n hx hb dX11_bank_58 rfl (lv_at hl 0 rfl) ?_
            refine lv_aload_n hx hb dX11_bank_59 rfl (lv_at hl 2 rfl) ?_
            refine va_get (D := (dC, dI)) (ci := 11) (v := .ref ar) (C := RX11) (T := TX11) (N := 12) hx hb hts iw_k_x_bank_X11 hown hK hP 0 rfl rfl 9 (by decide) (hts (.fieldLink RX11 75 "ThriceCounted" "refused" "[I") (by decide +kernel)) (fun _ h9 => h9) rfl dX11_bank_60 ?_
            refine va_alen (v := 3) hx hb hK hP 2 1 rfl rfl rfl dX11_bank_63 ?_
            refine lv_icmp_ge (tgt := 80) hx hb dX11_bank_64 (by decide) (fun c_18 => ?_) (fun c_18 => ?_)
            · exact absurd c_18 (by decide)
            · refine lv_aload_n hx hb dX11_bank_67 rfl (lv_at hl 2 rfl) ?_
              refine va_get (D := (dC, dI)) (ci := 11) (v := .ref ar) (C := RX11) (T := TX11) (N := 12) hx hb hts iw_k_x_bank_X11 hown hK hP 0 rfl rfl 9 (by decide) (hts (.fieldLink RX11 75 "ThriceCounted" "refused" "[I") (by decide +kernel)) (fun _ h9 => h9) rfl dX11_bank_68 ?_
              refine lv_iload_n hx hb dX11_bank_71 rfl (lv_at hl 0 rfl) ?_
              refine lv_iconst (v := 0) hx hb dX11_bank_72 (by decide) ?_
              refine va_iast hx hb hK hP hD hS 2 1 rfl rfl (show ¬ ((2 : Int32) < 0 ∨ 3 ≤ (2 : Int32).toNatClampNeg) by decide) dX11_bank_73 (fun H locs hP hD hS => ?_)
              generalize (upd f_17 (Int32.toNatClampNeg 2) 0) = f_19 at hP hD
              have hP : va_P (dC, dI) vwCl [(o, .inr (11, [.ref aw, .ref bk, .ref ai, .ref ak, .ref sc, .ref rd, .ref fo, .ref tx, .int 0, .ref ar, .ref atr, .ref ao])), (ak, .inl (ck, 2, .inl f_12)), (ar, .inl (cr, 3, .inl f_19))] H := hP
              have hD : va_D A [(o, .inr (11, [.ref aw, .ref bk, .ref ai, .ref ak, .ref sc, .ref rd, .ref fo, .ref tx, .int 0, .ref ar, .ref atr, .ref ao])), (ak, .inl (ck, 2, .inl f_12)), (ar, .inl (cr, 3, .inl f_19))] := hD
              refine lv_iinc (v := 3) (lv' := [(2, .int 3), (1, .int 0), (0, .ref o)]) hx hb dX11_bank_74 hl (k := 0) rfl (by decide) (by decide) rfl (fun ls hl => ?_)
              refine lv_goto (tgt := 58) hx hb dX11_bank_77 (by decide) ?_
              refine lv_iload_n hx hb dX11_bank_58 rfl (lv_at hl 0 rfl) ?_
              refine lv_aload_n hx hb dX11_bank_59 rfl (lv_at hl 2 rfl) ?_
              refine va_get (D := (dC, dI)) (ci := 11) (v := .ref ar) (C := RX11) (T := TX11) (N := 12) hx hb hts iw_k_x_bank_X11 hown hK hP 0 rfl rfl 9 (by decide) (hts (.fieldLink RX11 75 "ThriceCounted" "refused" "[I") (by decide +kernel)) (fun _ h9 => h9) rfl dX11_bank_60 ?_
              refine va_alen (v := 3) hx hb hK hP 2 1 rfl rfl rfl dX11_bank_63 ?_
              refine lv_icmp_ge (tgt := 80) hx hb dX11_bank_64 (by decide) (fun c_20 => ?_) (fun c_20 => ?_)
              · refine lv_iload_n hx hb dX11_bank_80 rfl (lv_at hl 1 rfl) ?_
                exact W.iret (v := 0) hx hb hr (fun t ht hW => ⟨⟨0, (), rfl, rfl, trivial⟩, hS.F ht⟩) hS.2.2 dX11_bank_81
              · exact absurd c_20 (by decide)
      · exact absurd c_13 (by decide)
set_option maxRecDepth 20000 in
theorem ggX11_clerk_X11_within : GoodIn wsX11_clerk wsX11_within := goodIn_r _ [6] (by decide +kernel) (by decide +kernel)
set_option maxRecDepth 20000 in
theorem gX11_clerk_X11_within : GoodIn wsX11_clerk (va_wsS RX11 102 yX11_within wsX11_within) := goodIn_app (goodIn_of _ (by decide +kernel)) ggX11_clerk_X11_within
set_option maxRecDepth 20000 in
theorem ggX11_clerk_X6_isFull : GoodIn wsX11_clerk wsX6_isFull := goodIn_r _ [20, 21, 22, 62, 63, 64, 65] (by decide +kernel) (by decide +kernel)
set_option maxRecDepth 20000 in
theorem gX11_clerk_X6_isFull : GoodIn wsX11_clerk (wsV RX11 113 RX6 yX6_isFull wsX6_isFull) := goodIn_app (goodIn_of _ (by decide +kernel)) ggX11_clerk_X6_isFull
set_option maxRecDepth 20000 in
theorem ggX11_clerk_X0_addClerk : GoodIn wsX11_clerk wsX0_addClerk := goodIn_r _ [27, 28, 29, 30, 31, 19, 32, 21, 33, 17, 18, 20, 22, 34, 35, 36, 37, 38, 39, 40, 41, 42, 43, 56, 57, 58, 59, 60, 61, 62, 63, 64, 65] (by decide +kernel) (by decide +kernel)
set_option maxRecDepth 20000 in
theorem gX11_clerk_X0_addClerk : GoodIn wsX11_clerk (wsV RX11 117 RX0 yX0_addClerk wsX0_addClerk) := goodIn_app (goodIn_of _ (by decide +kernel)) ggX11_clerk_X0_addClerk
set_option maxRecDepth 20000 in
theorem ggX11_clerk_X11_refuse : GoodIn wsX11_clerk wsX11_refuse := goodIn_r _ [10, 11, 12, 13, 5, 14, 15, 44, 45, 46, 47, 48, 49, 50, 51, 52, 53, 54, 55] (by decide +kernel) (by decide +kernel)
set_option maxRecDepth 20000 in
theorem gX11_clerk_X11_refuse : GoodIn wsX11_clerk (wsV RX11 106 RX11 yX11_refuse wsX11_refuse) := goodIn_app (goodIn_of _ (by decide +kernel)) ggX11_clerk_X11_refuse
theorem dX11_clerk_0 : decode cX11_clerk 0 = .ok (.iload_n 1, 1) := by decide +kernel
theorem dX11_clerk_1 : decode cX11_clerk 1 = .ok (.iconst 0, 1) := by decide +kernel
theorem dX11_clerk_2 : decode cX11_clerk 2 = .ok (.bipush 10, 2) := by decide +kernel
theorem dX11_clerk_4 : decode cX11_clerk 4 = .ok (.invokestatic 102, 3) := by decide +kernel
theorem dX11_clerk_7 : decode cX11_clerk 7 = .ok (.ifCond .ne 10, 3) := by decide +kernel
theorem dX11_clerk_17 : decode cX11_clerk 17 = .ok (.aload_n 0, 1) := by decide +kernel
theorem dX11_clerk_18 : decode cX11_clerk 18 = .ok (.getfield 34, 3) := by decide +kernel
theorem dX11_clerk_21 : decode cX11_clerk 21 = .ok (.getfield 110, 3) := by decide +kernel
theorem dX11_clerk_24 : decode cX11_clerk 24 = .ok (.invokevirtual 113, 3) := by decide +kernel
theorem dX11_clerk_27 : decode cX11_clerk 27 = .ok (.ifCond .eq 10, 3) := by decide +kernel
theorem dX11_clerk_37 : decode cX11_clerk 37 = .ok (.aload_n 0, 1) := by decide +kernel
theorem dX11_clerk_38 : decode cX11_clerk 38 = .ok (.getfield 34, 3) := by decide +kernel
theorem dX11_clerk_41 : decode cX11_clerk 41 = .ok (.iload_n 1, 1) := by decide +kernel
theorem dX11_clerk_42 : decode cX11_clerk 42 = .ok (.invokevirtual 117, 3) := by decide +kernel
theorem dX11_clerk_45 : decode cX11_clerk 45 = .ok (.ireturn, 1) := by decide +kernel
theorem dX11_clerk_10 : decode cX11_clerk 10 = .ok (.aload_n 0, 1) := by decide +kernel
theorem dX11_clerk_11 : decode cX11_clerk 11 = .ok (.bipush (-2), 2) := by decide +kernel
theorem dX11_clerk_13 : decode cX11_clerk 13 = .ok (.invokevirtual 106, 3) := by decide +kernel
theorem dX11_clerk_16 : decode cX11_clerk 16 = .ok (.ireturn, 1) := by decide +kernel
set_option maxRecDepth 20000 in
theorem iw_k_x_clerk_X11 : ∀ w ∈ wsX110, w ∈ wsX11_clerk := by decide +kernel
set_option maxRecDepth 20000 in
theorem iw_k_x_clerk_X0 : ∀ w ∈ wsX00, w ∈ wsX11_clerk := by decide +kernel
set_option maxHeartbeats 4000000 in
set_option maxRecDepth 100000 in
theorem k_x_clerk (l : Launch) (dC : Nat → ClassId) (dI : Nat → Nat → Nat) (o : Nat) (aw : Nat) (bk : Nat) (ai : Nat) (ak : Nat) (sc : Nat) (rd : Nat) (fo : Nat) (tx : Nat) (ar : Nat) (atr : Nat) (ao : Nat) (rk0 : Nat) (rk1 : Nat) (rk2 : Nat) (rk3 : Nat) (eak : Nat) (cak0 : Nat) (cck0 : ClassId) (cr : ClassId) (na : Int32) (sz : Nat) : Met l yX11_clerk wsX11_clerk ({ frames := 3, cells := 0, slots := 0, locals := 67 }) (va_Pc [.ref o, .int na] (fun U => U.heap.size = sz ∧ va_P (dC, dI) vwCl [(o, .inr (11, [.ref aw, .ref bk, .ref ai, .ref ak, .ref sc, .ref rd, .ref fo, .ref tx, .int 0, .ref ar, .ref atr, .ref ao])), (bk, .inr (0, [.ref rk0, .ref rk1, .ref rk2, .ref rk3, .ref eak, .int 0])), (rk0, .inr (6, [.int 1, .int 5, .ref cak0, .int 0])), (cak0, .inl (cck0, 5, .inl (fun _ => 0))), (ar, .inl (cr, 3, .inl (fun _ => 0)))] U.heap ∧ va_K (dC, dI) vwCl [(cck0, .int), (cr, .int)] U ∧ va_D (fun _ => True) [(o, .inr (11, [.ref aw, .ref bk, .ref ai, .ref ak, .ref sc, .ref rd, .ref fo, .ref tx, .int 0, .ref ar, .ref atr, .ref ao])), (bk, .inr (0, [.ref rk0, .ref rk1, .ref rk2, .ref rk3, .ref eak, .int 0])), (rk0, .inr (6, [.int 1, .int 5, .ref cak0, .int 0])), (cak0, .inl (cck0, 5, .inl (fun _ => 0))), (ar, .inl (cr, 3, .inl (fun _ => 0)))])) (va_Qi (fun (r : Int32) (_ : Unit) => r = (if 0 ≤ na ∧ na ≤ 10 then 0 else (-2))) (fun _ _ => True) (va_A [(o, .inr (11, [.ref aw, .ref bk, .ref ai, .ref ak, .ref sc, .ref rd, .ref fo, .ref tx, .int 0, .ref ar, .ref atr, .ref ao])), (bk, .inr (0, [.ref rk0, .ref rk1, .ref rk2, .ref rk3, .ref eak, .int 0])), (rk0, .inr (6, [.int 1, .int 5, .ref cak0, .int 0])), (cak0, .inl (cck0, 5, .inl (fun _ => 0))), (ar, .inl (cr, 3, .inl (fun _ => 0)))] sz)) 0 0 (va_A [(o, .inr (11, [.ref aw, .ref bk, .ref ai, .ref ak, .ref sc, .ref rd, .ref fo, .ref tx, .int 0, .ref ar, .ref atr, .ref ao])), (bk, .inr (0, [.ref rk0, .ref rk1, .ref rk2, .ref rk3, .ref eak, .int 0])), (rk0, .inr (6, [.int 1, .int 5, .ref cak0, .int 0])), (cak0, .inl (cck0, 5, .inl (fun _ => 0))), (ar, .inl (cr, 3, .inl (fun _ => 0)))] sz) := by
  refine Met.ofW (cc := cX11_clerk) (maxL := 2) (ret := (some .int)) (by decide) rfl ?_
  intro p e s m args below meth c s₁ B hml hv
  obtain ⟨rfl, hsz, hP, hK, hD0⟩ := hv
  have hx := B.exec
  have hb := B.bytes
  have hr := B.returns
  have hts := atoms_spec (ws := wsX11_clerk) B.pre
  have hown : s.vm.findClass RX11 = some m.cls := findClass_of_methodNamed B.named
  have hlocks := B.notSynchronized
  subst hsz
  have hD := hD0.self (sz := s.heap.size)
  generalize hAe : va_A [(o, .inr (11, [.ref aw, .ref bk, .ref ai, .ref ak, .ref sc, .ref rd, .ref fo, .ref tx, .int 0, .ref ar, .ref atr, .ref ao])), (bk, .inr (0, [.ref rk0, .ref rk1, .ref rk2, .ref rk3, .ref eak, .int 0])), (rk0, .inr (6, [.int 1, .int 5, .ref cak0, .int 0])), (cak0, .inl (cck0, 5, .inl (fun _ => 0))), (ar, .inl (cr, 3, .inl (fun _ => 0)))] s.heap.size = A at hD ⊢
  have hA : ∀ q : Nat, s.heap.size ≤ q → A q := fun q h => by rw [← hAe]; exact Or.inr h
  have hS : va_S A s.heap s.heap [] := va_S.rf
  have hP : va_P (dC, dI) vwCl [(o, .inr (11, [.ref aw, .ref bk, .ref ai, .ref ak, .ref sc, .ref rd, .ref fo, .ref tx, .int 0, .ref ar, .ref atr, .ref ao])), (bk, .inr (0, [.ref rk0, .ref rk1, .ref rk2, .ref rk3, .ref eak, .int 0])), (rk0, .inr (6, [.int 1, .int 5, .ref cak0, .int 0])), (cak0, .inl (cck0, 5, .inl (fun _ => 0))), (ar, .inl (cr, 3, .inl (fun _ => 0)))] s.heap := hP
  have hl := lv_entry ([.ref o, .int na]) (n := 2) (Nat.le_of_ble_eq_true rfl)
  rw [lg_entry_eq]
  generalize (lg_sl ([.ref o, .int na]) ++ List.replicate (2 - (lg_sl ([.ref o, .int na])).length) Slot.unset).toArray = ls at hl ⊢
  have hl : lv_has ls 2 [(0, .ref o), (1, .int na)] := hl
  refine lv_iload_n hx hb dX11_clerk_0 rfl (lv_at hl 1 rfl) ?_
  refine lv_iconst (v := 0) hx hb dX11_clerk_1 (by decide) ?_
  refine lv_bipush (v := 10) hx hb dX11_clerk_2 (by decide) ?_
  refine vp_callSi (va_Run.run (va_runS (As := [.int na, .int 0, .int 10]) (rest := []) ⟨hx, hb, hml, hown, hts⟩ (k_within l dC dI na 0 10) (va_cwS 3 hts gX11_clerk_X11_within rfl rfl rfl (by decide +kernel) ⟨Nat.le_of_ble_eq_true rfl, Nat.le_of_ble_eq_true rfl⟩) ⟨fun a U g mk q => ⟨q.1, trivial⟩, fun U hU hW => ⟨rfl, trivial⟩⟩ rfl rfl hl.1 rfl (lv_room (Nat.le_of_ble_eq_true rfl)) dX11_clerk_4 ⟨Nat.le_of_ble_eq_true rfl, Nat.le_of_ble_eq_true rfl⟩)) (fun r_1 hw_2 => ?_)
  by_cases hc_3 : 0 ≤ na ∧ na ≤ 10
  · obtain rfl : 1 = r_1 := (hw_2.trans (if_pos hc_3)).symm
    refine lv_if_ne (tgt := 17) hx hb dX11_clerk_7 (by decide) (fun c_4 => ?_) (fun c_4 => ?_)
    · refine lv_aload_n hx hb dX11_clerk_17 rfl (lv_at hl 0 rfl) ?_
      refine va_get (D := (dC, dI)) (ci := 11) (v := .ref bk) (C := RX11) (T := TX11) (N := 12) hx hb hts iw_k_x_clerk_X11 hown hK hP 0 rfl rfl 1 (by decide) (hts (.fieldLink RX11 34 "ThriceCounted" "bank" "LThriceCounted$Bank;") (by decide +kernel)) (fun _ h9 => h9) rfl dX11_clerk_18 ?_
      refine va_get (D := (dC, dI)) (ci := 0) (v := .ref rk0) (C := RX0) (T := TX0) (N := 6) hx hb hts iw_k_x_clerk_X0 hown hK hP 1 rfl rfl 0 (by decide) (hts (.fieldLink RX11 110 "ThriceCounted$Bank" "clerks" "LThriceCounted$Rows;") (by decide +kernel)) (fun _ h9 => h9) rfl dX11_clerk_21 ?_
      have hPc_5 := hP.sub (ws' := [(rk0, .inr (6, [.int 1, .int 5, .ref cak0, .int 0]))]) [2] rfl
      have hKc_6 := hK.sub (tys' := []) [] rfl
      refine vp_callSi (va_Run.run (va_runV (As := []) (rest := []) ⟨hx, hb, hml, hown, hts⟩ (k_isFull0 l dC dI rk0 (.int 1) 5 (.ref cak0) (by decide)) (cwV 0 hts gX11_clerk_X6_isFull rfl rfl rfl (by decide +kernel) ⟨Nat.le_of_ble_eq_true rfl, Nat.le_of_ble_eq_true rfl⟩) ⟨fun a U g mk q => by obtain ⟨q0, qP, qK⟩ := q; exact ⟨q0, qP, va_K.moved (u := U) (U := U.calling g mk a) (Vm.Alike.refl U.vm) qK⟩, va_recv hK hP (ci := 6) (q0 := 2) rfl rfl, fun U hU hW => ⟨rfl, by rw [hU]; exact hPc_5, va_K.moved hW.alike hKc_6⟩⟩ rfl rfl hl.1 rfl (lv_room (Nat.le_of_ble_eq_true rfl)) dX11_clerk_24 ⟨Nat.le_of_ble_eq_true rfl, Nat.le_of_ble_eq_true rfl⟩)) (fun r_7 hw_8 => ?_)
      obtain rfl : 0 = r_7 := hw_8.symm
      refine lv_if_eq (tgt := 37) hx hb dX11_clerk_27 (by decide) (fun c_9 => ?_) (fun c_9 => ?_)
      · refine lv_aload_n hx hb dX11_clerk_37 rfl (lv_at hl 0 rfl) ?_
        refine va_get (D := (dC, dI)) (ci := 11) (v := .ref bk) (C := RX11) (T := TX11) (N := 12) hx hb hts iw_k_x_clerk_X11 hown hK hP 0 rfl rfl 1 (by decide) (hts (.fieldLink RX11 34 "ThriceCounted" "bank" "LThriceCounted$Bank;") (by decide +kernel)) (fun _ h9 => h9) rfl dX11_clerk_38 ?_
        refine lv_iload_n hx hb dX11_clerk_41 rfl (lv_at hl 1 rfl) ?_
        have hPc := hP.sub (ws' := [(bk, .inr (0, [.ref rk0, .ref rk1, .ref rk2, .ref rk3, .ref eak, .int 0])), (rk0, .inr (6, [.int 1, .int 5, .ref cak0, .int 0])), (cak0, .inl (cck0, 5, .inl (fun _ => 0)))]) [1, 2, 3] rfl
        have hDc := hD.sub (ws' := [(bk, .inr (0, [.ref rk0, .ref rk1, .ref rk2, .ref rk3, .ref eak, .int 0])), (rk0, .inr (6, [.int 1, .int 5, .ref cak0, .int 0])), (cak0, .inl (cck0, 5, .inl (fun _ => 0)))]) [1, 2, 3] (by decide) rfl
        have hKc := hK.sub (tys' := [(cck0, .int)]) [0] rfl
        have hFc := va_free (wc := [(bk, .inr (0, [.ref rk0, .ref rk1, .ref rk2, .ref rk3, .ref eak, .int 0])), (rk0, .inr (6, [.int 1, .int 5, .ref cak0, .int 0])), (cak0, .inl (cck0, 5, .inl (fun _ => 0)))]) hD hS hA [1, 2, 3] rfl
        refine va_calli (va_runV (As := [.int na]) (rest := []) ⟨hx, hb, hml, hown, hts⟩ (k_addClerk l dC dI bk rk0 (.ref rk1) (.ref rk2) (.ref rk3) (.ref eak) (.int 0) cak0 cck0 (fun _ => 0) na s.heap.size) (cwV 1 hts gX11_clerk_X0_addClerk rfl rfl rfl (by decide +kernel) ⟨Nat.le_of_ble_eq_true rfl, Nat.le_of_ble_eq_true rfl⟩) ⟨fun a U g mk q => by obtain ⟨q0, q1, qP, qK, qD⟩ := q; exact ⟨q0, q1, qP, va_K.moved (u := U) (U := U.calling g mk a) (Vm.Alike.refl U.vm) qK, qD⟩, va_recv hK hP (ci := 0) (q0 := 1) rfl rfl, fun U hU hW => ⟨rfl, by rw [hU], by rw [hU]; exact hPc, va_K.moved hW.alike hKc, hDc.weaken (fun _ _ _ _ => trivial)⟩⟩ rfl rfl hl.1 rfl (lv_room (Nat.le_of_ble_eq_true rfl)) dX11_clerk_42 ⟨Nat.le_of_ble_eq_true rfl, Nat.le_of_ble_eq_true rfl⟩) hS (fun q _ h => hFc q h) hFc (fun r_10 u_ t H1 locs ht hvm hw_11 hB hz1 hk1 hS => ?_)
        obtain ⟨hP, hD⟩ := va_join (wr := [(o, .inr (11, [.ref aw, .ref bk, .ref ai, .ref ak, .ref sc, .ref rd, .ref fo, .ref tx, .int 0, .ref ar, .ref atr, .ref ao])), (ar, .inl (cr, 3, .inl (fun _ => 0)))]) (w1 := []) hP hD [1, 2, 3] [0, 4] rfl rfl (by decide) (by decide) hk1 hFc tz_P0 tz_D0
        generalize H1 = H at hP hS ⊢
        have hP : va_P (dC, dI) vwCl [(o, .inr (11, [.ref aw, .ref bk, .ref ai, .ref ak, .ref sc, .ref rd, .ref fo, .ref tx, .int 0, .ref ar, .ref atr, .ref ao])), (ar, .inl (cr, 3, .inl (fun _ => 0)))] H := hP
        have hD : va_D A [(o, .inr (11, [.ref aw, .ref bk, .ref ai, .ref ak, .ref sc, .ref rd, .ref fo, .ref tx, .int 0, .ref ar, .ref atr, .ref ao])), (ar, .inl (cr, 3, .inl (fun _ => 0)))] := hD
        obtain rfl : 0 = r_10 := hw_11.symm
        exact W.iret (v := 0) hx hb hr (fun t ht hW => ⟨⟨0, (), rfl, (if_pos hc_3).symm, trivial⟩, hS.F ht⟩) hS.2.2 dX11_clerk_45
      · exact absurd c_9 (by decide)
    · exact absurd c_4 (by decide)
  · obtain rfl : 0 = r_1 := (hw_2.trans (if_neg hc_3)).symm
    refine lv_if_ne (tgt := 17) hx hb dX11_clerk_7 (by decide) (fun c_12 => ?_) (fun c_12 => ?_)
    · exact absurd c_12 (by decide)
    · refine lv_aload_n hx hb dX11_clerk_10 rfl (lv_at hl 0 rfl) ?_
      refine lv_bipush (v := (-2)) hx hb dX11_clerk_11 (by decide) ?_
      have hPc := hP.sub (ws' := [(o, .inr (11, [.ref aw, .ref bk, .ref ai, .ref ak, .ref sc, .ref rd, .ref fo, .ref tx, .int 0, .ref ar, .ref atr, .ref ao])), (ar, .inl (cr, 3, .inl (fun _ => 0)))]) [0, 4] rfl
      have hDc := hD.sub (ws' := [(o, .inr (11, [.ref aw, .ref bk, .ref ai, .ref ak, .ref sc, .ref rd, .ref fo, .ref tx, .int 0, .ref ar, .ref atr, .ref ao])), (ar, .inl (cr, 3, .inl (fun _ => 0)))]) [0, 4] (by decide) rfl
      have hKc := hK.sub (tys' := [(cr, .int)]) [1] rfl
      have hFc := va_free (wc := [(o, .inr (11, [.ref aw, .ref bk, .ref ai, .ref ak, .ref sc, .ref rd, .ref fo, .ref tx, .int 0, .ref ar, .ref atr, .ref ao])), (ar, .inl (cr, 3, .inl (fun _ => 0)))]) hD hS hA [0, 4] rfl
      refine va_calli (va_runV (As := [.int (-2)]) (rest := []) ⟨hx, hb, hml, hown, hts⟩ (k_refuse l dC dI o (.ref aw) (.ref bk) (.ref ai) (.ref ak) (.ref sc) (.ref rd) (.ref fo) (.ref tx) (.int 0) ar (.ref atr) (.ref ao) cr (fun _ => 0) (-2) s.heap.size) (cwV 1 hts gX11_clerk_X11_refuse rfl rfl rfl (by decide +kernel) ⟨Nat.le_of_ble_eq_true rfl, Nat.le_of_ble_eq_true rfl⟩) ⟨fun a U g mk q => by obtain ⟨q0, q1, qP, qK, qD⟩ := q; exact ⟨q0, q1, qP, va_K.moved (u := U) (U := U.calling g mk a) (Vm.Alike.refl U.vm) qK, qD⟩, va_recv hK hP (ci := 11) (q0 := 0) rfl rfl, fun U hU hW => ⟨rfl, by rw [hU], by rw [hU]; exact hPc, va_K.moved hW.alike hKc, hDc.weaken (fun _ _ _ _ => trivial)⟩⟩ rfl rfl hl.1 rfl (lv_room (Nat.le_of_ble_eq_true rfl)) dX11_clerk_13 ⟨Nat.le_of_ble_eq_true rfl, Nat.le_of_ble_eq_true rfl⟩) hS (fun q _ h => hFc q h) hFc (fun r_13 u_ t H1 locs ht hvm hw_14 hB hz1 hk1 hS => ?_)
      obtain ⟨hP, hD⟩ := va_join (wr := [(bk, .inr (0, [.ref rk0, .ref rk1, .ref rk2, .ref rk3, .ref eak, .int 0])), (rk0, .inr (6, [.int 1, .int 5, .ref cak0, .int 0])), (cak0, .inl (cck0, 5, .inl (fun _ => 0)))]) (w1 := []) hP hD [0, 4] [1, 2, 3] rfl rfl (by decide) (by decide) hk1 hFc tz_P0 tz_D0
      generalize H1 = H at hP hS ⊢
      have hP : va_P (dC, dI) vwCl [(bk, .inr (0, [.ref rk0, .ref rk1, .ref rk2, .ref rk3, .ref eak, .int 0])), (rk0, .inr (6, [.int 1, .int 5, .ref cak0, .int 0])), (cak0, .inl (cck0, 5, .inl (fun _ => 0)))] H := hP
      have hD : va_D A [(bk, .inr (0, [.ref rk0, .ref rk1, .ref rk2, .ref rk3, .ref eak, .int 0])), (rk0, .inr (6, [.int 1, .int 5, .ref cak0, .int 0])), (cak0, .inl (cck0, 5, .inl (fun _ => 0)))] := hD
      obtain rfl : (-2) = r_13 := hw_14.symm
      exact W.iret (v := (-2)) hx hb hr (fun t ht hW => ⟨⟨(-2), (), rfl, (if_neg hc_3).symm, trivial⟩, hS.F ht⟩) hS.2.2 dX11_clerk_16
set_option maxRecDepth 20000 in
theorem ggX11_bundle_X11_within : GoodIn wsX11_bundle wsX11_within := goodIn_r _ [6] (by decide +kernel) (by decide +kernel)
set_option maxRecDepth 20000 in
theorem gX11_bundle_X11_within : GoodIn wsX11_bundle (va_wsS RX11 102 yX11_within wsX11_within) := goodIn_app (goodIn_of _ (by decide +kernel)) ggX11_bundle_X11_within
set_option maxRecDepth 20000 in
theorem ggX11_bundle_X6_isFull : GoodIn wsX11_bundle wsX6_isFull := goodIn_r _ [20, 21, 22, 62, 63, 64, 65] (by decide +kernel) (by decide +kernel)
set_option maxRecDepth 20000 in
theorem gX11_bundle_X6_isFull : GoodIn wsX11_bundle (wsV RX11 113 RX6 yX6_isFull wsX6_isFull) := goodIn_app (goodIn_of _ (by decide +kernel)) ggX11_bundle_X6_isFull
set_option maxRecDepth 20000 in
theorem ggX11_bundle_X0_addBundle : GoodIn wsX11_bundle wsX0_addBundle := goodIn_r _ [27, 28, 29, 30, 31, 19, 32, 21, 33, 17, 18, 20, 22, 34, 35, 36, 37, 38, 39, 40, 41, 42, 43, 56, 57, 58, 59, 60, 61, 62, 63, 64, 65] (by decide +kernel) (by decide +kernel)
set_option maxRecDepth 20000 in
theorem gX11_bundle_X0_addBundle : GoodIn wsX11_bundle (wsV RX11 120 RX0 yX0_addBundle wsX0_addBundle) := goodIn_app (goodIn_of _ (by decide +kernel)) ggX11_bundle_X0_addBundle
set_option maxRecDepth 20000 in
theorem ggX11_bundle_X11_refuse : GoodIn wsX11_bundle wsX11_refuse := goodIn_r _ [10, 11, 12, 13, 5, 14, 15, 44, 45, 46, 47, 48, 49, 50, 51, 52, 53, 54, 55] (by decide +kernel) (by decide +kernel)
set_option maxRecDepth 20000 in
theorem gX11_bundle_X11_refuse : GoodIn wsX11_bundle (wsV RX11 106 RX11 yX11_refuse wsX11_refuse) := goodIn_app (goodIn_of _ (by decide +kernel)) ggX11_bundle_X11_refuse
theorem dX11_bundle_0 : decode cX11_bundle 0 = .ok (.iload_n 1, 1) := by decide +kernel
theorem dX11_bundle_1 : decode cX11_bundle 1 = .ok (.bipush 90, 2) := by decide +kernel
theorem dX11_bundle_3 : decode cX11_bundle 3 = .ok (.bipush 110, 2) := by decide +kernel
theorem dX11_bundle_5 : decode cX11_bundle 5 = .ok (.invokestatic 102, 3) := by decide +kernel
theorem dX11_bundle_8 : decode cX11_bundle 8 = .ok (.ifCond .eq 13, 3) := by decide +kernel
theorem dX11_bundle_11 : decode cX11_bundle 11 = .ok (.iload_n 2, 1) := by decide +kernel
theorem dX11_bundle_12 : decode cX11_bundle 12 = .ok (.iload_n 1, 1) := by decide +kernel
theorem dX11_bundle_13 : decode cX11_bundle 13 = .ok (.bipush 110, 2) := by decide +kernel
theorem dX11_bundle_15 : decode cX11_bundle 15 = .ok (.invokestatic 102, 3) := by decide +kernel
theorem dX11_bundle_18 : decode cX11_bundle 18 = .ok (.ifCond .ne 10, 3) := by decide +kernel
theorem dX11_bundle_28 : decode cX11_bundle 28 = .ok (.aload_n 0, 1) := by decide +kernel
theorem dX11_bundle_29 : decode cX11_bundle 29 = .ok (.getfield 34, 3) := by decide +kernel
theorem dX11_bundle_32 : decode cX11_bundle 32 = .ok (.getfield 85, 3) := by decide +kernel
theorem dX11_bundle_35 : decode cX11_bundle 35 = .ok (.invokevirtual 113, 3) := by decide +kernel
theorem dX11_bundle_38 : decode cX11_bundle 38 = .ok (.ifCond .eq 10, 3) := by decide +kernel
theorem dX11_bundle_48 : decode cX11_bundle 48 = .ok (.aload_n 0, 1) := by decide +kernel
theorem dX11_bundle_49 : decode cX11_bundle 49 = .ok (.getfield 34, 3) := by decide +kernel
theorem dX11_bundle_52 : decode cX11_bundle 52 = .ok (.iload_n 1, 1) := by decide +kernel
theorem dX11_bundle_53 : decode cX11_bundle 53 = .ok (.iload_n 2, 1) := by decide +kernel
theorem dX11_bundle_54 : decode cX11_bundle 54 = .ok (.invokevirtual 120, 3) := by decide +kernel
theorem dX11_bundle_57 : decode cX11_bundle 57 = .ok (.ireturn, 1) := by decide +kernel
theorem dX11_bundle_21 : decode cX11_bundle 21 = .ok (.aload_n 0, 1) := by decide +kernel
theorem dX11_bundle_22 : decode cX11_bundle 22 = .ok (.bipush (-2), 2) := by decide +kernel
theorem dX11_bundle_24 : decode cX11_bundle 24 = .ok (.invokevirtual 106, 3) := by decide +kernel
theorem dX11_bundle_27 : decode cX11_bundle 27 = .ok (.ireturn, 1) := by decide +kernel
set_option maxRecDepth 20000 in
theorem iw_k_x_bundle_X11 : ∀ w ∈ wsX110, w ∈ wsX11_bundle := by decide +kernel
set_option maxRecDepth 20000 in
theorem iw_k_x_bundle_X0 : ∀ w ∈ wsX00, w ∈ wsX11_bundle := by decide +kernel
set_option maxHeartbeats 4000000 in
set_option maxRecDepth 100000 in
theorem k_x_bundle (l : Launch) (dC : Nat → ClassId) (dI : Nat → Nat → Nat) (o : Nat) (aw : Nat) (bk : Nat) (ai : Nat) (ak : Nat) (sc : Nat) (rd : Nat) (fo : Nat) (tx : Nat) (ar : Nat) (atr : Nat) (ao : Nat) (rk0 : Nat) (rk1 : Nat) (rk2 : Nat) (rk3 : Nat) (eak : Nat) (cak1 : Nat) (cck1 : ClassId) (cr : ClassId) (na : Int32) (nb : Int32) (sz : Nat) : Met l yX11_bundle wsX11_bundle ({ frames := 3, cells := 0, slots := 0, locals := 68 }) (va_Pc [.ref o, .int na, .int nb] (fun U => U.heap.size = sz ∧ va_P (dC, dI) vwCl [(o, .inr (11, [.ref aw, .ref bk, .ref ai, .ref ak, .ref sc, .ref rd, .ref fo, .ref tx, .int 0, .ref ar, .ref atr, .ref ao])), (bk, .inr (0, [.ref rk0, .ref rk1, .ref rk2, .ref rk3, .ref eak, .int 0])), (rk1, .inr (6, [.int 4, .int 5, .ref cak1, .int 0])), (cak1, .inl (cck1, 20, .inl (fun _ => 0))), (ar, .inl (cr, 3, .inl (fun _ => 0)))] U.heap ∧ va_K (dC, dI) vwCl [(cck1, .int), (cr, .int)] U ∧ va_D (fun _ => True) [(o, .inr (11, [.ref aw, .ref bk, .ref ai, .ref ak, .ref sc, .ref rd, .ref fo, .ref tx, .int 0, .ref ar, .ref atr, .ref ao])), (bk, .inr (0, [.ref rk0, .ref rk1, .ref rk2, .ref rk3, .ref eak, .int 0])), (rk1, .inr (6, [.int 4, .int 5, .ref cak1, .int 0])), (cak1, .inl (cck1, 20, .inl (fun _ => 0))), (ar, .inl (cr, 3, .inl (fun _ => 0)))])) (va_Qi (fun (r : Int32) (_ : Unit) => r = (if 90 ≤ na ∧ na ≤ 110 then (if na ≤ nb ∧ nb ≤ 110 then 0 else (-2)) else (-2))) (fun _ _ => True) (va_A [(o, .inr (11, [.ref aw, .ref bk, .ref ai, .ref ak, .ref sc, .ref rd, .ref fo, .ref tx, .int 0, .ref ar, .ref atr, .ref ao])), (bk, .inr (0, [.ref rk0, .ref rk1, .ref rk2, .ref rk3, .ref eak, .int 0])), (rk1, .inr (6, [.int 4, .int 5, .ref cak1, .int 0])), (cak1, .inl (cck1, 20, .inl (fun _ => 0))), (ar, .inl (cr, 3, .inl (fun _ => 0)))] sz)) 0 0 (va_A [(o, .inr (11, [.ref aw, .ref bk, .ref ai, .ref ak, .ref sc, .ref rd, .ref fo, .ref tx, .int 0, .ref ar, .ref atr, .ref ao])), (bk, .inr (0, [.ref rk0, .ref rk1, .ref rk2, .ref rk3, .ref eak, .int 0])), (rk1, .inr (6, [.int 4, .int 5, .ref cak1, .int 0])), (cak1, .inl (cck1, 20, .inl (fun _ => 0))), (ar, .inl (cr, 3, .inl (fun _ => 0)))] sz) := by
  refine Met.ofW (cc := cX11_bundle) (maxL := 3) (ret := (some .int)) (by decide) rfl ?_
  intro p e s m args below meth c s₁ B hml hv
  obtain ⟨rfl, hsz, hP, hK, hD0⟩ := hv
  have hx := B.exec
  have hb := B.bytes
  have hr := B.returns
  have hts := atoms_spec (ws := wsX11_bundle) B.pre
  have hown : s.vm.findClass RX11 = some m.cls := findClass_of_methodNamed B.named
  have hlocks := B.notSynchronized
  subst hsz
  have hD := hD0.self (sz := s.heap.size)
  generalize hAe : va_A [(o, .inr (11, [.ref aw, .ref bk, .ref ai, .ref ak, .ref sc, .ref rd, .ref fo, .ref tx, .int 0, .ref ar, .ref atr, .ref ao])), (bk, .inr (0, [.ref rk0, .ref rk1, .ref rk2, .ref rk3, .ref eak, .int 0])), (rk1, .inr (6, [.int 4, .int 5, .ref cak1, .int 0])), (cak1, .inl (cck1, 20, .inl (fun _ => 0))), (ar, .inl (cr, 3, .inl (fun _ => 0)))] s.heap.size = A at hD ⊢
  have hA : ∀ q : Nat, s.heap.size ≤ q → A q := fun q h => by rw [← hAe]; exact Or.inr h
  have hS : va_S A s.heap s.heap [] := va_S.rf
  have hP : va_P (dC, dI) vwCl [(o, .inr (11, [.ref aw, .ref bk, .ref ai, .ref ak, .ref sc, .ref rd, .ref fo, .ref tx, .int 0, .ref ar, .ref atr, .ref ao])), (bk, .inr (0, [.ref rk0, .ref rk1, .ref rk2, .ref rk3, .ref eak, .int 0])), (rk1, .inr (6, [.int 4, .int 5, .ref cak1, .int 0])), (cak1, .inl (cck1, 20, .inl (fun _ => 0))), (ar, .inl (cr, 3, .inl (fun _ => 0)))] s.heap := hP
  have hl := lv_entry ([.ref o, .int na, .int nb]) (n := 3) (Nat.le_of_ble_eq_true rfl)
  rw [lg_entry_eq]
  generalize (lg_sl ([.ref o, .int na, .int nb]) ++ List.replicate (3 - (lg_sl ([.ref o, .int na, .int nb])).length) Slot.unset).toArray = ls at hl ⊢
  have hl : lv_has ls 3 [(0, .ref o), (1, .int na), (2, .int nb)] := hl
  refine lv_iload_n hx hb dX11_bundle_0 rfl (lv_at hl 1 rfl) ?_
  refine lv_bipush (v := 90) hx hb dX11_bundle_1 (by decide) ?_
  refine lv_bipush (v := 110) hx hb dX11_bundle_3 (by decide) ?_
  refine vp_callSi (va_Run.run (va_runS (As := [.int na, .int 90, .int 110]) (rest := []) ⟨hx, hb, hml, hown, hts⟩ (k_within l dC dI na 90 110) (va_cwS 3 hts gX11_bundle_X11_within rfl rfl rfl (by decide +kernel) ⟨Nat.le_of_ble_eq_true rfl, Nat.le_of_ble_eq_true rfl⟩) ⟨fun a U g mk q => ⟨q.1, trivial⟩, fun U hU hW => ⟨rfl, trivial⟩⟩ rfl rfl hl.1 rfl (lv_room (Nat.le_of_ble_eq_true rfl)) dX11_bundle_5 ⟨Nat.le_of_ble_eq_true rfl, Nat.le_of_ble_eq_true rfl⟩)) (fun r_1 hw_2 => ?_)
  by_cases hc_3 : 90 ≤ na ∧ na ≤ 110
  · obtain rfl : 1 = r_1 := (hw_2.trans (if_pos hc_3)).symm
    refine lv_if_eq (tgt := 21) hx hb dX11_bundle_8 (by decide) (fun c_4 => ?_) (fun c_4 => ?_)
    · exact absurd c_4 (by decide)
    · refine lv_iload_n hx hb dX11_bundle_11 rfl (lv_at hl 2 rfl) ?_
      refine lv_iload_n hx hb dX11_bundle_12 rfl (lv_at hl 1 rfl) ?_
      refine lv_bipush (v := 110) hx hb dX11_bundle_13 (by decide) ?_
      refine vp_callSi (va_Run.run (va_runS (As := [.int nb, .int na, .int 110]) (rest := []) ⟨hx, hb, hml, hown, hts⟩ (k_within l dC dI nb na 110) (va_cwS 3 hts gX11_bundle_X11_within rfl rfl rfl (by decide +kernel) ⟨Nat.le_of_ble_eq_true rfl, Nat.le_of_ble_eq_true rfl⟩) ⟨fun a U g mk q => ⟨q.1, trivial⟩, fun U hU hW => ⟨rfl, trivial⟩⟩ rfl rfl hl.1 rfl (lv_room (Nat.le_of_ble_eq_true rfl)) dX11_bundle_15 ⟨Nat.le_of_ble_eq_true rfl, Nat.le_of_ble_eq_true rfl⟩)) (fun r_5 hw_6 => ?_)
      by_cases hc_7 : na ≤ nb ∧ nb ≤ 110
      · obtain rfl : 1 = r_5 := (hw_6.trans (if_pos hc_7)).symm
        refine lv_if_ne (tgt := 28) hx hb dX11_bundle_18 (by decide) (fun c_8 => ?_) (fun c_8 => ?_)
        · refine lv_aload_n hx hb dX11_bundle_28 rfl (lv_at hl 0 rfl) ?_
          refine va_get (D := (dC, dI)) (ci := 11) (v := .ref bk) (C := RX11) (T := TX11) (N := 12) hx hb hts iw_k_x_bundle_X11 hown hK hP 0 rfl rfl 1 (by decide) (hts (.fieldLink RX11 34 "ThriceCounted" "bank" "LThriceCounted$Bank;") (by decide +kernel)) (fun _ h9 => h9) rfl dX11_bundle_29 ?_
          refine va_get (D := (dC, dI)) (ci := 0) (v := .ref rk1) (C := RX0) (T := TX0) (N := 6) hx hb hts iw_k_x_bundle_X0 hown hK hP 1 rfl rfl 1 (by decide) (hts (.fieldLink RX11 85 "ThriceCounted$Bank" "bundles" "LThriceCounted$Rows;") (by decide +kernel)) (fun _ h9 => h9) rfl dX11_bundle_32 ?_
          have hPc_9 := hP.sub (ws' := [(rk1, .inr (6, [.int 4, .int 5, .ref cak1, .int 0]))]) [2] rfl
          have hKc_10 := hK.sub (tys' := []) [] rfl
          refine vp_callSi (va_Run.run (va_runV (As := []) (rest := []) ⟨hx, hb, hml, hown, hts⟩ (k_isFull0 l dC dI rk1 (.int 4) 5 (.ref cak1) (by decide)) (cwV 0 hts gX11_bundle_X6_isFull rfl rfl rfl (by decide +kernel) ⟨Nat.le_of_ble_eq_true rfl, Nat.le_of_ble_eq_true rfl⟩) ⟨fun a U g mk q => by obtain ⟨q0, qP, qK⟩ := q; exact ⟨q0, qP, va_K.moved (u := U) (U := U.calling g mk a) (Vm.Alike.refl U.vm) qK⟩, va_recv hK hP (ci := 6) (q0 := 2) rfl rfl, fun U hU hW => ⟨rfl, by rw [hU]; exact hPc_9, va_K.moved hW.alike hKc_10⟩⟩ rfl rfl hl.1 rfl (lv_room (Nat.le_of_ble_eq_true rfl)) dX11_bundle_35 ⟨Nat.le_of_ble_eq_true rfl, Nat.le_of_ble_eq_true rfl⟩)) (fun r_11 hw_12 => ?_)
          obtain rfl : 0 = r_11 := hw_12.symm
          refine lv_if_eq (tgt := 48) hx hb dX11_bundle_38 (by decide) (fun c_13 => ?_) (fun c_13 => ?_)
          · refine lv_aload_n hx hb dX11_bundle_48 rfl (lv_at hl 0 rfl) ?_
            refine va_get (D := (dC, dI)) (ci := 11) (v := .ref bk) (C := RX11) (T := TX11) (N := 12) hx hb hts iw_k_x_bundle_X11 hown hK hP 0 rfl rfl 1 (by decide) (hts (.fieldLink RX11 34 "ThriceCounted" "bank" "LThriceCounted$Bank;") (by decide +kernel)) (fun _ h9 => h9) rfl dX11_bundle_49 ?_
            refine lv_iload_n hx hb dX11_bundle_52 rfl (lv_at hl 1 rfl) ?_
            refine lv_iload_n hx hb dX11_bundle_53 rfl (lv_at hl 2 rfl) ?_
            have hPc := hP.sub (ws' := [(bk, .inr (0, [.ref rk0, .ref rk1, .ref rk2, .ref rk3, .ref eak, .int 0])), (rk1, .inr (6, [.int 4, .int 5, .ref cak1, .int 0])), (cak1, .inl (cck1, 20, .inl (fun _ => 0)))]) [1, 2, 3] rfl
            have hDc := hD.sub (ws' := [(bk, .inr (0, [.ref rk0, .ref rk1, .ref rk2, .ref rk3, .ref eak, .int 0])), (rk1, .inr (6, [.int 4, .int 5, .ref cak1, .int 0])), (cak1, .inl (cck1, 20, .inl (fun _ => 0)))]) [1, 2, 3] (by decide) rfl
            have hKc := hK.sub (tys' := [(cck1, .int)]) [0] rfl
            have hFc := va_free (wc := [(bk, .inr (0, [.ref rk0, .ref rk1, .ref rk2, .ref rk3, .ref eak, .int 0])), (rk1, .inr (6, [.int 4, .int 5, .ref cak1, .int 0])), (cak1, .inl (cck1, 20, .inl (fun _ => 0)))]) hD hS hA [1, 2, 3] rfl
            refine va_calli (va_runV (As := [.int na, .int nb]) (rest := []) ⟨hx, hb, hml, hown, hts⟩ (k_addBundle l dC dI bk (.ref rk0) rk1 (.ref rk2) (.ref rk3) (.ref eak) (.int 0) cak1 cck1 (fun _ => 0) na nb s.heap.size) (cwV 2 hts gX11_bundle_X0_addBundle rfl rfl rfl (by decide +kernel) ⟨Nat.le_of_ble_eq_true rfl, Nat.le_of_ble_eq_true rfl⟩) ⟨fun a U g mk q => by obtain ⟨q0, q1, qP, qK, qD⟩ := q; exact ⟨q0, q1, qP, va_K.moved (u := U) (U := U.calling g mk a) (Vm.Alike.refl U.vm) qK, qD⟩, va_recv hK hP (ci := 0) (q0 := 1) rfl rfl, fun U hU hW => ⟨rfl, by rw [hU], by rw [hU]; exact hPc, va_K.moved hW.alike hKc, hDc.weaken (fun _ _ _ _ => trivial)⟩⟩ rfl rfl hl.1 rfl (lv_room (Nat.le_of_ble_eq_true rfl)) dX11_bundle_54 ⟨Nat.le_of_ble_eq_true rfl, Nat.le_of_ble_eq_true rfl⟩) hS (fun q _ h => hFc q h) hFc (fun r_14 u_ t H1 locs ht hvm hw_15 hB hz1 hk1 hS => ?_)
            obtain ⟨hP, hD⟩ := va_join (wr := [(o, .inr (11, [.ref aw, .ref bk, .ref ai, .ref ak, .ref sc, .ref rd, .ref fo, .ref tx, .int 0, .ref ar, .ref atr, .ref ao])), (ar, .inl (cr, 3, .inl (fun _ => 0)))]) (w1 := []) hP hD [1, 2, 3] [0, 4] rfl rfl (by decide) (by decide) hk1 hFc tz_P0 tz_D0
            generalize H1 = H at hP hS ⊢
            have hP : va_P (dC, dI) vwCl [(o, .inr (11, [.ref aw, .ref bk, .ref ai, .ref ak, .ref sc, .ref rd, .ref fo, .ref tx, .int 0, .ref ar, .ref atr, .ref ao])), (ar, .inl (cr, 3, .inl (fun _ => 0)))] H := hP
            have hD : va_D A [(o, .inr (11, [.ref aw, .ref bk, .ref ai, .ref ak, .ref sc, .ref rd, .ref fo, .ref tx, .int 0, .ref ar, .ref atr, .ref ao])), (ar, .inl (cr, 3, .inl (fun _ => 0)))] := hD
            obtain rfl : 0 = r_14 := hw_15.symm
            exact W.iret (v := 0) hx hb hr (fun t ht hW => ⟨⟨0, (), rfl, ((if_pos hc_3).trans (if_pos hc_7)).symm, trivial⟩, hS.F ht⟩) hS.2.2 dX11_bundle_57
          · exact absurd c_13 (by decide)
        · exact absurd c_8 (by decide)
      · obtain rfl : 0 = r_5 := (hw_6.trans (if_neg hc_7)).symm
        refine lv_if_ne (tgt := 28) hx hb dX11_bundle_18 (by decide) (fun c_16 => ?_) (fun c_16 => ?_)
        · exact absurd c_16 (by decide)
        · refine lv_aload_n hx hb dX11_bundle_21 rfl (lv_at hl 0 rfl) ?_
          refine lv_bipush (v := (-2)) hx hb dX11_bundle_22 (by decide) ?_
          have hPc := hP.sub (ws' := [(o, .inr (11, [.ref aw, .ref bk, .ref ai, .ref ak, .ref sc, .ref rd, .ref fo, .ref tx, .int 0, .ref ar, .ref atr, .ref ao])), (ar, .inl (cr, 3, .inl (fun _ => 0)))]) [0, 4] rfl
          have hDc := hD.sub (ws' := [(o, .inr (11, [.ref aw, .ref bk, .ref ai, .ref ak, .ref sc, .ref rd, .ref fo, .ref tx, .int 0, .ref ar, .ref atr, .ref ao])), (ar, .inl (cr, 3, .inl (fun _ => 0)))]) [0, 4] (by decide) rfl
          have hKc := hK.sub (tys' := [(cr, .int)]) [1] rfl
          have hFc := va_free (wc := [(o, .inr (11, [.ref aw, .ref bk, .ref ai, .ref ak, .ref sc, .ref rd, .ref fo, .ref tx, .int 0, .ref ar, .ref atr, .ref ao])), (ar, .inl (cr, 3, .inl (fun _ => 0)))]) hD hS hA [0, 4] rfl
          refine va_calli (va_runV (As := [.int (-2)]) (rest := []) ⟨hx, hb, hml, hown, hts⟩ (k_refuse l dC dI o (.ref aw) (.ref bk) (.ref ai) (.ref ak) (.ref sc) (.ref rd) (.ref fo) (.ref tx) (.int 0) ar (.ref atr) (.ref ao) cr (fun _ => 0) (-2) s.heap.size) (cwV 1 hts gX11_bundle_X11_refuse rfl rfl rfl (by decide +kernel) ⟨Nat.le_of_ble_eq_true rfl, Nat.le_of_ble_eq_true rfl⟩) ⟨fun a U g mk q => by obtain ⟨q0, q1, qP, qK, qD⟩ := q; exact ⟨q0, q1, qP, va_K.moved (u := U) (U := U.calling g mk a) (Vm.Alike.refl U.vm) qK, qD⟩, va_recv hK hP (ci := 11) (q0 := 0) rfl rfl, fun U hU hW => ⟨rfl, by rw [hU], by rw [hU]; exact hPc, va_K.moved hW.alike hKc, hDc.weaken (fun _ _ _ _ => trivial)⟩⟩ rfl rfl hl.1 rfl (lv_room (Nat.le_of_ble_eq_true rfl)) dX11_bundle_24 ⟨Nat.le_of_ble_eq_true rfl, Nat.le_of_ble_eq_true rfl⟩) hS (fun q _ h => hFc q h) hFc (fun r_17 u_ t H1 locs ht hvm hw_18 hB hz1 hk1 hS => ?_)
          obtain ⟨hP, hD⟩ := va_join (wr := [(bk, .inr (0, [.ref rk0, .ref rk1, .ref rk2, .ref rk3, .ref eak, .int 0])), (rk1, .inr (6, [.int 4, .int 5, .ref cak1, .int 0])), (cak1, .inl (cck1, 20, .inl (fun _ => 0)))]) (w1 := []) hP hD [0, 4] [1, 2, 3] rfl rfl (by decide) (by decide) hk1 hFc tz_P0 tz_D0
          generalize H1 = H at hP hS ⊢
          have hP : va_P (dC, dI) vwCl [(bk, .inr (0, [.ref rk0, .ref rk1, .ref rk2, .ref rk3, .ref eak, .int 0])), (rk1, .inr (6, [.int 4, .int 5, .ref cak1, .int 0])), (cak1, .inl (cck1, 20, .inl (fun _ => 0)))] H := hP
          have hD : va_D A [(bk, .inr (0, [.ref rk0, .ref rk1, .ref rk2, .ref rk3, .ref eak, .int 0])), (rk1, .inr (6, [.int 4, .int 5, .ref cak1, .int 0])), (cak1, .inl (cck1, 20, .inl (fun _ => 0)))] := hD
          obtain rfl : (-2) = r_17 := hw_18.symm
          exact W.iret (v := (-2)) hx hb hr (fun t ht hW => ⟨⟨(-2), (), rfl, ((if_pos hc_3).trans (if_neg hc_7)).symm, trivial⟩, hS.F ht⟩) hS.2.2 dX11_bundle_27
  · obtain rfl : 0 = r_1 := (hw_2.trans (if_neg hc_3)).symm
    refine lv_if_eq (tgt := 21) hx hb dX11_bundle_8 (by decide) (fun c_19 => ?_) (fun c_19 => ?_)
    · refine lv_aload_n hx hb dX11_bundle_21 rfl (lv_at hl 0 rfl) ?_
      refine lv_bipush (v := (-2)) hx hb dX11_bundle_22 (by decide) ?_
      have hPc := hP.sub (ws' := [(o, .inr (11, [.ref aw, .ref bk, .ref ai, .ref ak, .ref sc, .ref rd, .ref fo, .ref tx, .int 0, .ref ar, .ref atr, .ref ao])), (ar, .inl (cr, 3, .inl (fun _ => 0)))]) [0, 4] rfl
      have hDc := hD.sub (ws' := [(o, .inr (11, [.ref aw, .ref bk, .ref ai, .ref ak, .ref sc, .ref rd, .ref fo, .ref tx, .int 0, .ref ar, .ref atr, .ref ao])), (ar, .inl (cr, 3, .inl (fun _ => 0)))]) [0, 4] (by decide) rfl
      have hKc := hK.sub (tys' := [(cr, .int)]) [1] rfl
      have hFc := va_free (wc := [(o, .inr (11, [.ref aw, .ref bk, .ref ai, .ref ak, .ref sc, .ref rd, .ref fo, .ref tx, .int 0, .ref ar, .ref atr, .ref ao])), (ar, .inl (cr, 3, .inl (fun _ => 0)))]) hD hS hA [0, 4] rfl
      refine va_calli (va_runV (As := [.int (-2)]) (rest := []) ⟨hx, hb, hml, hown, hts⟩ (k_refuse l dC dI o (.ref aw) (.ref bk) (.ref ai) (.ref ak) (.ref sc) (.ref rd) (.ref fo) (.ref tx) (.int 0) ar (.ref atr) (.ref ao) cr (fun _ => 0) (-2) s.heap.size) (cwV 1 hts gX11_bundle_X11_refuse rfl rfl rfl (by decide +kernel) ⟨Nat.le_of_ble_eq_true rfl, Nat.le_of_ble_eq_true rfl⟩) ⟨fun a U g mk q => by obtain ⟨q0, q1, qP, qK, qD⟩ := q; exact ⟨q0, q1, qP, va_K.moved (u := U) (U := U.calling g mk a) (Vm.Alike.refl U.vm) qK, qD⟩, va_recv hK hP (ci := 11) (q0 := 0) rfl rfl, fun U hU hW => ⟨rfl, by rw [hU], by rw [hU]; exact hPc, va_K.moved hW.alike hKc, hDc.weaken (fun _ _ _ _ => trivial)⟩⟩ rfl rfl hl.1 rfl (lv_room (Nat.le_of_ble_eq_true rfl)) dX11_bundle_24 ⟨Nat.le_of_ble_eq_true rfl, Nat.le_of_ble_eq_true rfl⟩) hS (fun q _ h => hFc q h) hFc (fun r_20 u_ t H1 locs ht hvm hw_21 hB hz1 hk1 hS => ?_)
      obtain ⟨hP, hD⟩ := va_join (wr := [(bk, .inr (0, [.ref rk0, .ref rk1, .ref rk2, .ref rk3, .ref eak, .int 0])), (rk1, .inr (6, [.int 4, .int 5, .ref cak1, .int 0])), (cak1, .inl (cck1, 20, .inl (fun _ => 0)))]) (w1 := []) hP hD [0, 4] [1, 2, 3] rfl rfl (by decide) (by decide) hk1 hFc tz_P0 tz_D0
      generalize H1 = H at hP hS ⊢
      have hP : va_P (dC, dI) vwCl [(bk, .inr (0, [.ref rk0, .ref rk1, .ref rk2, .ref rk3, .ref eak, .int 0])), (rk1, .inr (6, [.int 4, .int 5, .ref cak1, .int 0])), (cak1, .inl (cck1, 20, .inl (fun _ => 0)))] H := hP
      have hD : va_D A [(bk, .inr (0, [.ref rk0, .ref rk1, .ref rk2, .ref rk3, .ref eak, .int 0])), (rk1, .inr (6, [.int 4, .int 5, .ref cak1, .int 0])), (cak1, .inl (cck1, 20, .inl (fun _ => 0)))] := hD
      obtain rfl : (-2) = r_20 := hw_21.symm
      exact W.iret (v := (-2)) hx hb hr (fun t ht hW => ⟨⟨(-2), (), rfl, (if_neg hc_3).symm, trivial⟩, hS.F ht⟩) hS.2.2 dX11_bundle_27
    · exact absurd c_19 (by decide)
set_option maxRecDepth 20000 in
theorem ggX11_band_X6_has : GoodIn wsX11_band wsX6_has := goodIn_r _ [8, 9, 61, 62, 63, 64] (by decide +kernel) (by decide +kernel)
set_option maxRecDepth 20000 in
theorem gX11_band_X6_has : GoodIn wsX11_band (wsV RX11 124 RX6 yX6_has wsX6_has) := goodIn_app (goodIn_of _ (by decide +kernel)) ggX11_band_X6_has
set_option maxRecDepth 20000 in
theorem ggX11_band_X11_refuse : GoodIn wsX11_band wsX11_refuse := goodIn_r _ [17, 18, 19, 20, 12, 21, 22, 43, 44, 45, 46, 47, 48, 49, 50, 51, 52, 53, 54] (by decide +kernel) (by decide +kernel)
set_option maxRecDepth 20000 in
theorem gX11_band_X11_refuse : GoodIn wsX11_band (wsV RX11 106 RX11 yX11_refuse wsX11_refuse) := goodIn_app (goodIn_of _ (by decide +kernel)) ggX11_band_X11_refuse
theorem dX11_band_0 : decode cX11_band 0 = .ok (.aload_n 0, 1) := by decide +kernel
theorem dX11_band_1 : decode cX11_band 1 = .ok (.getfield 34, 3) := by decide +kernel
theorem dX11_band_4 : decode cX11_band 4 = .ok (.getfield 85, 3) := by decide +kernel
theorem dX11_band_7 : decode cX11_band 7 = .ok (.iload_n 1, 1) := by decide +kernel
theorem dX11_band_8 : decode cX11_band 8 = .ok (.invokevirtual 124, 3) := by decide +kernel
theorem dX11_band_11 : decode cX11_band 11 = .ok (.ifCond .eq 28, 3) := by decide +kernel
theorem dX11_band_39 : decode cX11_band 39 = .ok (.aload_n 0, 1) := by decide +kernel
theorem dX11_band_40 : decode cX11_band 40 = .ok (.bipush (-2), 2) := by decide +kernel
theorem dX11_band_42 : decode cX11_band 42 = .ok (.invokevirtual 106, 3) := by decide +kernel
theorem dX11_band_45 : decode cX11_band 45 = .ok (.ireturn, 1) := by decide +kernel
set_option maxRecDepth 20000 in
theorem iw_k_x_band_X11 : ∀ w ∈ wsX110, w ∈ wsX11_band := by decide +kernel
set_option maxRecDepth 20000 in
theorem iw_k_x_band_X0 : ∀ w ∈ wsX00, w ∈ wsX11_band := by decide +kernel
set_option maxHeartbeats 4000000 in
set_option maxRecDepth 100000 in
theorem k_x_band (l : Launch) (dC : Nat → ClassId) (dI : Nat → Nat → Nat) (o : Nat) (aw : Nat) (bk : Nat) (ai : Nat) (ak : Nat) (sc : Nat) (rd : Nat) (fo : Nat) (tx : Nat) (ar : Nat) (atr : Nat) (ao : Nat) (rk0 : Nat) (rk1 : Nat) (rk2 : Nat) (rk3 : Nat) (eak : Nat) (cak1 : Nat) (cr : ClassId) (na : Int32) (nb : Int32) (nc : Int32) (sz : Nat) : Met l yX11_band wsX11_band ({ frames := 2, cells := 0, slots := 0, locals := 44 }) (va_Pc [.ref o, .int na, .int nb, .int nc] (fun U => U.heap.size = sz ∧ va_P (dC, dI) vwCl [(o, .inr (11, [.ref aw, .ref bk, .ref ai, .ref ak, .ref sc, .ref rd, .ref fo, .ref tx, .int 0, .ref ar, .ref atr, .ref ao])), (bk, .inr (0, [.ref rk0, .ref rk1, .ref rk2, .ref rk3, .ref eak, .int 0])), (rk1, .inr (6, [.int 4, .int 5, .ref cak1, .int 0])), (ar, .inl (cr, 3, .inl (fun _ => 0)))] U.heap ∧ va_K (dC, dI) vwCl [(cr, .int)] U ∧ va_D (fun _ => True) [(o, .inr (11, [.ref aw, .ref bk, .ref ai, .ref ak, .ref sc, .ref rd, .ref fo, .ref tx, .int 0, .ref ar, .ref atr, .ref ao])), (bk, .inr (0, [.ref rk0, .ref rk1, .ref rk2, .ref rk3, .ref eak, .int 0])), (rk1, .inr (6, [.int 4, .int 5, .ref cak1, .int 0])), (ar, .inl (cr, 3, .inl (fun _ => 0)))])) (va_Qi (fun (r : Int32) (_ : Unit) => r = (-2)) (fun _ _ => True) (va_A [(o, .inr (11, [.ref aw, .ref bk, .ref ai, .ref ak, .ref sc, .ref rd, .ref fo, .ref tx, .int 0, .ref ar, .ref atr, .ref ao])), (bk, .inr (0, [.ref rk0, .ref rk1, .ref rk2, .ref rk3, .ref eak, .int 0])), (rk1, .inr (6, [.int 4, .int 5, .ref cak1, .int 0])), (ar, .inl (cr, 3, .inl (fun _ => 0)))] sz)) 0 0 (va_A [(o, .inr (11, [.ref aw, .ref bk, .ref ai, .ref ak, .ref sc, .ref rd, .ref fo, .ref tx, .int 0, .ref ar, .ref atr, .ref ao])), (bk, .inr (0, [.ref rk0, .ref rk1, .ref rk2, .ref rk3, .ref eak, .int 0])), (rk1, .inr (6, [.int 4, .int 5, .ref cak1, .int 0])), (ar, .inl (cr, 3, .inl (fun _ => 0)))] sz) := by
  refine Met.ofW (cc := cX11_band) (maxL := 5) (ret := (some .int)) (by decide) rfl ?_
  intro p e s m args below meth c s₁ B hml hv
  obtain ⟨rfl, hsz, hP, hK, hD0⟩ := hv
  have hx := B.exec
  have hb := B.bytes
  have hr := B.returns
  have hts := atoms_spec (ws := wsX11_band) B.pre
  have hown : s.vm.findClass RX11 = some m.cls := findClass_of_methodNamed B.named
  have hlocks := B.notSynchronized
  subst hsz
  have hD := hD0.self (sz := s.heap.size)
  generalize hAe : va_A [(o, .inr (11, [.ref aw, .ref bk, .ref ai, .ref ak, .ref sc, .ref rd, .ref fo, .ref tx, .int 0, .ref ar, .ref atr, .ref ao])), (bk, .inr (0, [.ref rk0, .ref rk1, .ref rk2, .ref rk3, .ref eak, .int 0])), (rk1, .inr (6, [.int 4, .int 5, .ref cak1, .int 0])), (ar, .inl (cr, 3, .inl (fun _ => 0)))] s.heap.size = A at hD ⊢
  have hA : ∀ q : Nat, s.heap.size ≤ q → A q := fun q h => by rw [← hAe]; exact Or.inr h
  have hS : va_S A s.heap s.heap [] := va_S.rf
  have hP : va_P (dC, dI) vwCl [(o, .inr (11, [.ref aw, .ref bk, .ref ai, .ref ak, .ref sc, .ref rd, .ref fo, .ref tx, .int 0, .ref ar, .ref atr, .ref ao])), (bk, .inr (0, [.ref rk0, .ref rk1, .ref rk2, .ref rk3, .ref eak, .int 0])), (rk1, .inr (6, [.int 4, .int 5, .ref cak1, .int 0])), (ar, .inl (cr, 3, .inl (fun _ => 0)))] s.heap := hP
  have hl := lv_entry ([.ref o, .int na, .int nb, .int nc]) (n := 5) (Nat.le_of_ble_eq_true rfl)
  rw [lg_entry_eq]
  generalize (lg_sl ([.ref o, .int na, .int nb, .int nc]) ++ List.replicate (5 - (lg_sl ([.ref o, .int na, .int nb, .int nc])).length) Slot.unset).toArray = ls at hl ⊢
  have hl : lv_has ls 5 [(0, .ref o), (1, .int na), (2, .int nb), (3, .int nc)] := hl
  refine lv_aload_n hx hb dX11_band_0 rfl (lv_at hl 0 rfl) ?_
  refine va_get (D := (dC, dI)) (ci := 11) (v := .ref bk) (C := RX11) (T := TX11) (N := 12) hx hb hts iw_k_x_band_X11 hown hK hP 0 rfl rfl 1 (by decide) (hts (.fieldLink RX11 34 "ThriceCounted" "bank" "LThriceCounted$Bank;") (by decide +kernel)) (fun _ h9 => h9) rfl dX11_band_1 ?_
  refine va_get (D := (dC, dI)) (ci := 0) (v := .ref rk1) (C := RX0) (T := TX0) (N := 6) hx hb hts iw_k_x_band_X0 hown hK hP 1 rfl rfl 1 (by decide) (hts (.fieldLink RX11 85 "ThriceCounted$Bank" "bundles" "LThriceCounted$Rows;") (by decide +kernel)) (fun _ h9 => h9) rfl dX11_band_4 ?_
  refine lv_iload_n hx hb dX11_band_7 rfl (lv_at hl 1 rfl) ?_
  have hPc_1 := hP.sub (ws' := [(rk1, .inr (6, [.int 4, .int 5, .ref cak1, .int 0]))]) [2] rfl
  have hKc_2 := hK.sub (tys' := []) [] rfl
  refine vp_callSi (va_Run.run (va_runV (As := [.int na]) (rest := []) ⟨hx, hb, hml, hown, hts⟩ (k_has0 l dC dI rk1 (.int 4) (.int 5) (.ref cak1) na) (cwV 1 hts gX11_band_X6_has rfl rfl rfl (by decide +kernel) ⟨Nat.le_of_ble_eq_true rfl, Nat.le_of_ble_eq_true rfl⟩) ⟨fun a U g mk q => by obtain ⟨q0, qP, qK⟩ := q; exact ⟨q0, qP, va_K.moved (u := U) (U := U.calling g mk a) (Vm.Alike.refl U.vm) qK⟩, va_recv hK hP (ci := 6) (q0 := 2) rfl rfl, fun U hU hW => ⟨rfl, by rw [hU]; exact hPc_1, va_K.moved hW.alike hKc_2⟩⟩ rfl rfl hl.1 rfl (lv_room (Nat.le_of_ble_eq_true rfl)) dX11_band_8 ⟨Nat.le_of_ble_eq_true rfl, Nat.le_of_ble_eq_true rfl⟩)) (fun r_3 hw_4 => ?_)
  obtain rfl : 0 = r_3 := hw_4.symm
  refine lv_if_eq (tgt := 39) hx hb dX11_band_11 (by decide) (fun c_5 => ?_) (fun c_5 => ?_)
  · refine lv_aload_n hx hb dX11_band_39 rfl (lv_at hl 0 rfl) ?_
    refine lv_bipush (v := (-2)) hx hb dX11_band_40 (by decide) ?_
    have hPc := hP.sub (ws' := [(o, .inr (11, [.ref aw, .ref bk, .ref ai, .ref ak, .ref sc, .ref rd, .ref fo, .ref tx, .int 0, .ref ar, .ref atr, .ref ao])), (ar, .inl (cr, 3, .inl (fun _ => 0)))]) [0, 3] rfl
    have hDc := hD.sub (ws' := [(o, .inr (11, [.ref aw, .ref bk, .ref ai, .ref ak, .ref sc, .ref rd, .ref fo, .ref tx, .int 0, .ref ar, .ref atr, .ref ao])), (ar, .inl (cr, 3, .inl (fun _ => 0)))]) [0, 3] (by decide) rfl
    have hKc := hK.sub (tys' := [(cr, .int)]) [0] rfl
    have hFc := va_free (wc := [(o, .inr (11, [.ref aw, .ref bk, .ref ai, .ref ak, .ref sc, .ref rd, .ref fo, .ref tx, .int 0, .ref ar, .ref atr, .ref ao])), (ar, .inl (cr, 3, .inl (fun _ => 0)))]) hD hS hA [0, 3] rfl
    refine va_calli (va_runV (As := [.int (-2)]) (rest := []) ⟨hx, hb, hml, hown, hts⟩ (k_refuse l dC dI o (.ref aw) (.ref bk) (.ref ai) (.ref ak) (.ref sc) (.ref rd) (.ref fo) (.ref tx) (.int 0) ar (.ref atr) (.ref ao) cr (fun _ => 0) (-2) s.heap.size) (cwV 1 hts gX11_band_X11_refuse rfl rfl rfl (by decide +kernel) ⟨Nat.le_of_ble_eq_true rfl, Nat.le_of_ble_eq_true rfl⟩) ⟨fun a U g mk q => by obtain ⟨q0, q1, qP, qK, qD⟩ := q; exact ⟨q0, q1, qP, va_K.moved (u := U) (U := U.calling g mk a) (Vm.Alike.refl U.vm) qK, qD⟩, va_recv hK hP (ci := 11) (q0 := 0) rfl rfl, fun U hU hW => ⟨rfl, by rw [hU], by rw [hU]; exact hPc, va_K.moved hW.alike hKc, hDc.weaken (fun _ _ _ _ => trivial)⟩⟩ rfl rfl hl.1 rfl (lv_room (Nat.le_of_ble_eq_true rfl)) dX11_band_42 ⟨Nat.le_of_ble_eq_true rfl, Nat.le_of_ble_eq_true rfl⟩) hS (fun q _ h => hFc q h) hFc (fun r_6 u_ t H1 locs ht hvm hw_7 hB hz1 hk1 hS => ?_)
    obtain ⟨hP, hD⟩ := va_join (wr := [(bk, .inr (0, [.ref rk0, .ref rk1, .ref rk2, .ref rk3, .ref eak, .int 0])), (rk1, .inr (6, [.int 4, .int 5, .ref cak1, .int 0]))]) (w1 := []) hP hD [0, 3] [1, 2] rfl rfl (by decide) (by decide) hk1 hFc tz_P0 tz_D0
    generalize H1 = H at hP hS ⊢
    have hP : va_P (dC, dI) vwCl [(bk, .inr (0, [.ref rk0, .ref rk1, .ref rk2, .ref rk3, .ref eak, .int 0])), (rk1, .inr (6, [.int 4, .int 5, .ref cak1, .int 0]))] H := hP
    have hD : va_D A [(bk, .inr (0, [.ref rk0, .ref rk1, .ref rk2, .ref rk3, .ref eak, .int 0])), (rk1, .inr (6, [.int 4, .int 5, .ref cak1, .int 0]))] := hD
    obtain rfl : (-2) = r_6 := hw_7.symm
    exact W.iret (v := (-2)) hx hb hr (fun t ht hW => ⟨⟨(-2), (), rfl, rfl, trivial⟩, hS.F ht⟩) hS.2.2 dX11_band_45
  · exact absurd c_5 (by decide)
set_option maxRecDepth 20000 in
theorem ggX11_tell_X6_has : GoodIn wsX11_tell wsX6_has := goodIn_r _ [9, 10, 95, 96, 97, 98] (by decide +kernel) (by decide +kernel)
set_option maxRecDepth 20000 in
theorem gX11_tell_X6_has : GoodIn wsX11_tell (wsV RX11 124 RX6 yX6_has wsX6_has) := goodIn_app (goodIn_of _ (by decide +kernel)) ggX11_tell_X6_has
set_option maxRecDepth 20000 in
theorem ggX11_tell_X11_refuse : GoodIn wsX11_tell wsX11_refuse := goodIn_r _ [23, 24, 25, 26, 14, 27, 28, 77, 78, 79, 80, 81, 82, 83, 84, 85, 86, 87, 88] (by decide +kernel) (by decide +kernel)
set_option maxRecDepth 20000 in
theorem gX11_tell_X11_refuse : GoodIn wsX11_tell (wsV RX11 106 RX11 yX11_refuse wsX11_refuse) := goodIn_app (goodIn_of _ (by decide +kernel)) ggX11_tell_X11_refuse
theorem dX11_tell_0 : decode cX11_tell 0 = .ok (.aload_n 0, 1) := by decide +kernel
theorem dX11_tell_1 : decode cX11_tell 1 = .ok (.getfield 34, 3) := by decide +kernel
theorem dX11_tell_4 : decode cX11_tell 4 = .ok (.getfield 85, 3) := by decide +kernel
theorem dX11_tell_7 : decode cX11_tell 7 = .ok (.iload_n 1, 1) := by decide +kernel
theorem dX11_tell_8 : decode cX11_tell 8 = .ok (.invokevirtual 124, 3) := by decide +kernel
theorem dX11_tell_11 : decode cX11_tell 11 = .ok (.ifCond .eq 37, 3) := by decide +kernel
theorem dX11_tell_48 : decode cX11_tell 48 = .ok (.aload_n 0, 1) := by decide +kernel
theorem dX11_tell_49 : decode cX11_tell 49 = .ok (.bipush (-2), 2) := by decide +kernel
theorem dX11_tell_51 : decode cX11_tell 51 = .ok (.invokevirtual 106, 3) := by decide +kernel
theorem dX11_tell_54 : decode cX11_tell 54 = .ok (.ireturn, 1) := by decide +kernel
set_option maxRecDepth 20000 in
theorem iw_k_x_tell_X11 : ∀ w ∈ wsX110, w ∈ wsX11_tell := by decide +kernel
set_option maxRecDepth 20000 in
theorem iw_k_x_tell_X0 : ∀ w ∈ wsX00, w ∈ wsX11_tell := by decide +kernel
set_option maxHeartbeats 4000000 in
set_option maxRecDepth 100000 in
theorem k_x_tell (l : Launch) (dC : Nat → ClassId) (dI : Nat → Nat → Nat) (o : Nat) (aw : Nat) (bk : Nat) (ai : Nat) (ak : Nat) (sc : Nat) (rd : Nat) (fo : Nat) (tx : Nat) (ar : Nat) (atr : Nat) (ao : Nat) (rk0 : Nat) (rk1 : Nat) (rk2 : Nat) (rk3 : Nat) (eak : Nat) (cak1 : Nat) (cr : ClassId) (na : Int32) (nb : Int32) (nc : Int32) (nd : Int32) (sz : Nat) : Met l yX11_tell wsX11_tell ({ frames := 2, cells := 0, slots := 0, locals := 44 }) (va_Pc [.ref o, .int na, .int nb, .int nc, .int nd] (fun U => U.heap.size = sz ∧ va_P (dC, dI) vwCl [(o, .inr (11, [.ref aw, .ref bk, .ref ai, .ref ak, .ref sc, .ref rd, .ref fo, .ref tx, .int 0, .ref ar, .ref atr, .ref ao])), (bk, .inr (0, [.ref rk0, .ref rk1, .ref rk2, .ref rk3, .ref eak, .int 0])), (rk1, .inr (6, [.int 4, .int 5, .ref cak1, .int 0])), (ar, .inl (cr, 3, .inl (fun _ => 0)))] U.heap ∧ va_K (dC, dI) vwCl [(cr, .int)] U ∧ va_D (fun _ => True) [(o, .inr (11, [.ref aw, .ref bk, .ref ai, .ref ak, .ref sc, .ref rd, .ref fo, .ref tx, .int 0, .ref ar, .ref atr, .ref ao])), (bk, .inr (0, [.ref rk0, .ref rk1, .ref rk2, .ref rk3, .ref eak, .int 0])), (rk1, .inr (6, [.int 4, .int 5, .ref cak1, .int 0])), (ar, .inl (cr, 3, .inl (fun _ => 0)))])) (va_Qi (fun (r : Int32) (_ : Unit) => r = (-2)) (fun _ _ => True) (va_A [(o, .inr (11, [.ref aw, .ref bk, .ref ai, .ref ak, .ref sc, .ref rd, .ref fo, .ref tx, .int 0, .ref ar, .ref atr, .ref ao])), (bk, .inr (0, [.ref rk0, .ref rk1, .ref rk2, .ref rk3, .ref eak, .int 0])), (rk1, .inr (6, [.int 4, .int 5, .ref cak1, .int 0])), (ar, .inl (cr, 3, .inl (fun _ => 0)))] sz)) 0 0 (va_A [(o, .inr (11, [.ref aw, .ref bk, .ref ai, .ref ak, .ref sc, .ref rd, .ref fo, .ref tx, .int 0, .ref ar, .ref atr, .ref ao])), (bk, .inr (0, [.ref rk0, .ref rk1, .ref rk2, .ref rk3, .ref eak, .int 0])), (rk1, .inr (6, [.int 4, .int 5, .ref cak1, .int 0])), (ar, .inl (cr, 3, .inl (fun _ => 0)))] sz) := by
  refine Met.ofW (cc := cX11_tell) (maxL := 5) (ret := (some .int)) (by decide) rfl ?_
  intro p e s m args below meth c s₁ B hml hv
  obtain ⟨rfl, hsz, hP, hK, hD0⟩ := hv
  have hx := B.exec
  have hb := B.bytes
  have hr := B.returns
  have hts := atoms_spec (ws := wsX11_tell) B.pre
  have hown : s.vm.findClass RX11 = some m.cls := findClass_of_methodNamed B.named
  have hlocks := B.notSynchronized
  subst hsz
  have hD := hD0.self (sz := s.heap.size)
  generalize hAe : va_A [(o, .inr (11, [.ref aw, .ref bk, .ref ai, .ref ak, .ref sc, .ref rd, .ref fo, .ref tx, .int 0, .ref ar, .ref atr, .ref ao])), (bk, .inr (0, [.ref rk0, .ref rk1, .ref rk2, .ref rk3, .ref eak, .int 0])), (rk1, .inr (6, [.int 4, .int 5, .ref cak1, .int 0])), (ar, .inl (cr, 3, .inl (fun _ => 0)))] s.heap.size = A at hD ⊢
  have hA : ∀ q : Nat, s.heap.size ≤ q → A q := fun q h => by rw [← hAe]; exact Or.inr h
  have hS : va_S A s.heap s.heap [] := va_S.rf
  have hP : va_P (dC, dI) vwCl [(o, .inr (11, [.ref aw, .ref bk, .ref ai, .ref ak, .ref sc, .ref rd, .ref fo, .ref tx, .int 0, .ref ar, .ref atr, .ref ao])), (bk, .inr (0, [.ref rk0, .ref rk1, .ref rk2, .ref rk3, .ref eak, .int 0])), (rk1, .inr (6, [.int 4, .int 5, .ref cak1, .int 0])), (ar, .inl (cr, 3, .inl (fun _ => 0)))] s.heap := hP
  have hl := lv_entry ([.ref o, .int na, .int nb, .int nc, .int nd]) (n := 5) (Nat.le_of_ble_eq_true rfl)
  rw [lg_entry_eq]
  generalize (lg_sl ([.ref o, .int na, .int nb, .int nc, .int nd]) ++ List.replicate (5 - (lg_sl ([.ref o, .int na, .int nb, .int nc, .int nd])).length) Slot.unset).toArray = ls at hl ⊢
  have hl : lv_has ls 5 [(0, .ref o), (1, .int na), (2, .int nb), (3, .int nc), (4, .int nd)] := hl
  refine lv_aload_n hx hb dX11_tell_0 rfl (lv_at hl 0 rfl) ?_
  refine va_get (D := (dC, dI)) (ci := 11) (v := .ref bk) (C := RX11) (T := TX11) (N := 12) hx hb hts iw_k_x_tell_X11 hown hK hP 0 rfl rfl 1 (by decide) (hts (.fieldLink RX11 34 "ThriceCounted" "bank" "LThriceCounted$Bank;") (by decide +kernel)) (fun _ h9 => h9) rfl dX11_tell_1 ?_
  refine va_get (D := (dC, dI)) (ci := 0) (v := .ref rk1) (C := RX0) (T := TX0) (N := 6) hx hb hts iw_k_x_tell_X0 hown hK hP 1 rfl rfl 1 (by decide) (hts (.fieldLink RX11 85 "ThriceCounted$Bank" "bundles" "LThriceCounted$Rows;") (by decide +kernel)) (fun _ h9 => h9) rfl dX11_tell_4 ?_
  refine lv_iload_n hx hb dX11_tell_7 rfl (lv_at hl 1 rfl) ?_
  have hPc_1 := hP.sub (ws' := [(rk1, .inr (6, [.int 4, .int 5, .ref cak1, .int 0]))]) [2] rfl
  have hKc_2 := hK.sub (tys' := []) [] rfl
  refine vp_callSi (va_Run.run (va_runV (As := [.int na]) (rest := []) ⟨hx, hb, hml, hown, hts⟩ (k_has0 l dC dI rk1 (.int 4) (.int 5) (.ref cak1) na) (cwV 1 hts gX11_tell_X6_has rfl rfl rfl (by decide +kernel) ⟨Nat.le_of_ble_eq_true rfl, Nat.le_of_ble_eq_true rfl⟩) ⟨fun a U g mk q => by obtain ⟨q0, qP, qK⟩ := q; exact ⟨q0, qP, va_K.moved (u := U) (U := U.calling g mk a) (Vm.Alike.refl U.vm) qK⟩, va_recv hK hP (ci := 6) (q0 := 2) rfl rfl, fun U hU hW => ⟨rfl, by rw [hU]; exact hPc_1, va_K.moved hW.alike hKc_2⟩⟩ rfl rfl hl.1 rfl (lv_room (Nat.le_of_ble_eq_true rfl)) dX11_tell_8 ⟨Nat.le_of_ble_eq_true rfl, Nat.le_of_ble_eq_true rfl⟩)) (fun r_3 hw_4 => ?_)
  obtain rfl : 0 = r_3 := hw_4.symm
  refine lv_if_eq (tgt := 48) hx hb dX11_tell_11 (by decide) (fun c_5 => ?_) (fun c_5 => ?_)
  · refine lv_aload_n hx hb dX11_tell_48 rfl (lv_at hl 0 rfl) ?_
    refine lv_bipush (v := (-2)) hx hb dX11_tell_49 (by decide) ?_
    have hPc := hP.sub (ws' := [(o, .inr (11, [.ref aw, .ref bk, .ref ai, .ref ak, .ref sc, .ref rd, .ref fo, .ref tx, .int 0, .ref ar, .ref atr, .ref ao])), (ar, .inl (cr, 3, .inl (fun _ => 0)))]) [0, 3] rfl
    have hDc := hD.sub (ws' := [(o, .inr (11, [.ref aw, .ref bk, .ref ai, .ref ak, .ref sc, .ref rd, .ref fo, .ref tx, .int 0, .ref ar, .ref atr, .ref ao])), (ar, .inl (cr, 3, .inl (fun _ => 0)))]) [0, 3] (by decide) rfl
    have hKc := hK.sub (tys' := [(cr, .int)]) [0] rfl
    have hFc := va_free (wc := [(o, .inr (11, [.ref aw, .ref bk, .ref ai, .ref ak, .ref sc, .ref rd, .ref fo, .ref tx, .int 0, .ref ar, .ref atr, .ref ao])), (ar, .inl (cr, 3, .inl (fun _ => 0)))]) hD hS hA [0, 3] rfl
    refine va_calli (va_runV (As := [.int (-2)]) (rest := []) ⟨hx, hb, hml, hown, hts⟩ (k_refuse l dC dI o (.ref aw) (.ref bk) (.ref ai) (.ref ak) (.ref sc) (.ref rd) (.ref fo) (.ref tx) (.int 0) ar (.ref atr) (.ref ao) cr (fun _ => 0) (-2) s.heap.size) (cwV 1 hts gX11_tell_X11_refuse rfl rfl rfl (by decide +kernel) ⟨Nat.le_of_ble_eq_true rfl, Nat.le_of_ble_eq_true rfl⟩) ⟨fun a U g mk q => by obtain ⟨q0, q1, qP, qK, qD⟩ := q; exact ⟨q0, q1, qP, va_K.moved (u := U) (U := U.calling g mk a) (Vm.Alike.refl U.vm) qK, qD⟩, va_recv hK hP (ci := 11) (q0 := 0) rfl rfl, fun U hU hW => ⟨rfl, by rw [hU], by rw [hU]; exact hPc, va_K.moved hW.alike hKc, hDc.weaken (fun _ _ _ _ => trivial)⟩⟩ rfl rfl hl.1 rfl (lv_room (Nat.le_of_ble_eq_true rfl)) dX11_tell_51 ⟨Nat.le_of_ble_eq_true rfl, Nat.le_of_ble_eq_true rfl⟩) hS (fun q _ h => hFc q h) hFc (fun r_6 u_ t H1 locs ht hvm hw_7 hB hz1 hk1 hS => ?_)
    obtain ⟨hP, hD⟩ := va_join (wr := [(bk, .inr (0, [.ref rk0, .ref rk1, .ref rk2, .ref rk3, .ref eak, .int 0])), (rk1, .inr (6, [.int 4, .int 5, .ref cak1, .int 0]))]) (w1 := []) hP hD [0, 3] [1, 2] rfl rfl (by decide) (by decide) hk1 hFc tz_P0 tz_D0
    generalize H1 = H at hP hS ⊢
    have hP : va_P (dC, dI) vwCl [(bk, .inr (0, [.ref rk0, .ref rk1, .ref rk2, .ref rk3, .ref eak, .int 0])), (rk1, .inr (6, [.int 4, .int 5, .ref cak1, .int 0]))] H := hP
    have hD : va_D A [(bk, .inr (0, [.ref rk0, .ref rk1, .ref rk2, .ref rk3, .ref eak, .int 0])), (rk1, .inr (6, [.int 4, .int 5, .ref cak1, .int 0]))] := hD
    obtain rfl : (-2) = r_6 := hw_7.symm
    exact W.iret (v := (-2)) hx hb hr (fun t ht hW => ⟨⟨(-2), (), rfl, rfl, trivial⟩, hS.F ht⟩) hS.2.2 dX11_tell_54
  · exact absurd c_5 (by decide)
set_option maxRecDepth 20000 in
theorem ggX11_back_X6_has : GoodIn wsX11_back wsX6_has := goodIn_r _ [7, 8, 85, 86, 87, 88] (by decide +kernel) (by decide +kernel)
set_option maxRecDepth 20000 in
theorem gX11_back_X6_has : GoodIn wsX11_back (wsV RX11 124 RX6 yX6_has wsX6_has) := goodIn_app (goodIn_of _ (by decide +kernel)) ggX11_back_X6_has
set_option maxRecDepth 20000 in
theorem ggX11_back_X11_refuse : GoodIn wsX11_back wsX11_refuse := goodIn_r _ [13, 14, 15, 16, 12, 17, 18, 67, 68, 69, 70, 71, 72, 73, 74, 75, 76, 77, 78] (by decide +kernel) (by decide +kernel)
set_option maxRecDepth 20000 in
theorem gX11_back_X11_refuse : GoodIn wsX11_back (wsV RX11 106 RX11 yX11_refuse wsX11_refuse) := goodIn_app (goodIn_of _ (by decide +kernel)) ggX11_back_X11_refuse
theorem dX11_back_0 : decode cX11_back 0 = .ok (.aload_n 0, 1) := by decide +kernel
theorem dX11_back_1 : decode cX11_back 1 = .ok (.getfield 34, 3) := by decide +kernel
theorem dX11_back_4 : decode cX11_back 4 = .ok (.getfield 138, 3) := by decide +kernel
theorem dX11_back_7 : decode cX11_back 7 = .ok (.iload_n 1, 1) := by decide +kernel
theorem dX11_back_8 : decode cX11_back 8 = .ok (.invokevirtual 124, 3) := by decide +kernel
theorem dX11_back_11 : decode cX11_back 11 = .ok (.ifCond .ne 10, 3) := by decide +kernel
theorem dX11_back_14 : decode cX11_back 14 = .ok (.aload_n 0, 1) := by decide +kernel
theorem dX11_back_15 : decode cX11_back 15 = .ok (.bipush (-2), 2) := by decide +kernel
theorem dX11_back_17 : decode cX11_back 17 = .ok (.invokevirtual 106, 3) := by decide +kernel
theorem dX11_back_20 : decode cX11_back 20 = .ok (.ireturn, 1) := by decide +kernel
set_option maxRecDepth 20000 in
theorem iw_k_x_back_X11 : ∀ w ∈ wsX110, w ∈ wsX11_back := by decide +kernel
set_option maxRecDepth 20000 in
theorem iw_k_x_back_X0 : ∀ w ∈ wsX00, w ∈ wsX11_back := by decide +kernel
set_option maxHeartbeats 4000000 in
set_option maxRecDepth 100000 in
theorem k_x_back (l : Launch) (dC : Nat → ClassId) (dI : Nat → Nat → Nat) (o : Nat) (aw : Nat) (bk : Nat) (ai : Nat) (ak : Nat) (sc : Nat) (rd : Nat) (fo : Nat) (tx : Nat) (ar : Nat) (atr : Nat) (ao : Nat) (rk0 : Nat) (rk1 : Nat) (rk2 : Nat) (rk3 : Nat) (eak : Nat) (cak2 : Nat) (cr : ClassId) (na : Int32) (sz : Nat) : Met l yX11_back wsX11_back ({ frames := 2, cells := 0, slots := 0, locals := 44 }) (va_Pc [.ref o, .int na] (fun U => U.heap.size = sz ∧ va_P (dC, dI) vwCl [(o, .inr (11, [.ref aw, .ref bk, .ref ai, .ref ak, .ref sc, .ref rd, .ref fo, .ref tx, .int 0, .ref ar, .ref atr, .ref ao])), (bk, .inr (0, [.ref rk0, .ref rk1, .ref rk2, .ref rk3, .ref eak, .int 0])), (rk2, .inr (6, [.int 4, .int 8, .ref cak2, .int 0])), (ar, .inl (cr, 3, .inl (fun _ => 0)))] U.heap ∧ va_K (dC, dI) vwCl [(cr, .int)] U ∧ va_D (fun _ => True) [(o, .inr (11, [.ref aw, .ref bk, .ref ai, .ref ak, .ref sc, .ref rd, .ref fo, .ref tx, .int 0, .ref ar, .ref atr, .ref ao])), (bk, .inr (0, [.ref rk0, .ref rk1, .ref rk2, .ref rk3, .ref eak, .int 0])), (rk2, .inr (6, [.int 4, .int 8, .ref cak2, .int 0])), (ar, .inl (cr, 3, .inl (fun _ => 0)))])) (va_Qi (fun (r : Int32) (_ : Unit) => r = (-2)) (fun _ _ => True) (va_A [(o, .inr (11, [.ref aw, .ref bk, .ref ai, .ref ak, .ref sc, .ref rd, .ref fo, .ref tx, .int 0, .ref ar, .ref atr, .ref ao])), (bk, .inr (0, [.ref rk0, .ref rk1, .ref rk2, .ref rk3, .ref eak, .int 0])), (rk2, .inr (6, [.int 4, .int 8, .ref cak2, .int 0])), (ar, .inl (cr, 3, .inl (fun _ => 0)))] sz)) 0 0 (va_A [(o, .inr (11, [.ref aw, .ref bk, .ref ai, .ref ak, .ref sc, .ref rd, .ref fo, .ref tx, .int 0, .ref ar, .ref atr, .ref ao])), (bk, .inr (0, [.ref rk0, .ref rk1, .ref rk2, .ref rk3, .ref eak, .int 0])), (rk2, .inr (6, [.int 4, .int 8, .ref cak2, .int 0])), (ar, .inl (cr, 3, .inl (fun _ => 0)))] sz) := by
  refine Met.ofW (cc := cX11_back) (maxL := 2) (ret := (some .int)) (by decide) rfl ?_
  intro p e s m args below meth c s₁ B hml hv
  obtain ⟨rfl, hsz, hP, hK, hD0⟩ := hv
  have hx := B.exec
  have hb := B.bytes
  have hr := B.returns
  have hts := atoms_spec (ws := wsX11_back) B.pre
  have hown : s.vm.findClass RX11 = some m.cls := findClass_of_methodNamed B.named
  have hlocks := B.notSynchronized
  subst hsz
  have hD := hD0.self (sz := s.heap.size)
  generalize hAe : va_A [(o, .inr (11, [.ref aw, .ref bk, .ref ai, .ref ak, .ref sc, .ref rd, .ref fo, .ref tx, .int 0, .ref ar, .ref atr, .ref ao])), (bk, .inr (0, [.ref rk0, .ref rk1, .ref rk2, .ref rk3, .ref eak, .int 0])), (rk2, .inr (6, [.int 4, .int 8, .ref cak2, .int 0])), (ar, .inl (cr, 3, .inl (fun _ => 0)))] s.heap.size = A at hD ⊢
  have hA : ∀ q : Nat, s.heap.size ≤ q → A q := fun q h => by rw [← hAe]; exact Or.inr h
  have hS : va_S A s.heap s.heap [] := va_S.rf
  have hP : va_P (dC, dI) vwCl [(o, .inr (11, [.ref aw, .ref bk, .ref ai, .ref ak, .ref sc, .ref rd, .ref fo, .ref tx, .int 0, .ref ar, .ref atr, .ref ao])), (bk, .inr (0, [.ref rk0, .ref rk1, .ref rk2, .ref rk3, .ref eak, .int 0])), (rk2, .inr (6, [.int 4, .int 8, .ref cak2, .int 0])), (ar, .inl (cr, 3, .inl (fun _ => 0)))] s.heap := hP
  have hl := lv_entry ([.ref o, .int na]) (n := 2) (Nat.le_of_ble_eq_true rfl)
  rw [lg_entry_eq]
  generalize (lg_sl ([.ref o, .int na]) ++ List.replicate (2 - (lg_sl ([.ref o, .int na])).length) Slot.unset).toArray = ls at hl ⊢
  have hl : lv_has ls 2 [(0, .ref o), (1, .int na)] := hl
  refine lv_aload_n hx hb dX11_back_0 rfl (lv_at hl 0 rfl) ?_
  refine va_get (D := (dC, dI)) (ci := 11) (v := .ref bk) (C := RX11) (T := TX11) (N := 12) hx hb hts iw_k_x_back_X11 hown hK hP 0 rfl rfl 1 (by decide) (hts (.fieldLink RX11 34 "ThriceCounted" "bank" "LThriceCounted$Bank;") (by decide +kernel)) (fun _ h9 => h9) rfl dX11_back_1 ?_
  refine va_get (D := (dC, dI)) (ci := 0) (v := .ref rk2) (C := RX0) (T := TX0) (N := 6) hx hb hts iw_k_x_back_X0 hown hK hP 1 rfl rfl 2 (by decide) (hts (.fieldLink RX11 138 "ThriceCounted$Bank" "counts" "LThriceCounted$Rows;") (by decide +kernel)) (fun _ h9 => h9) rfl dX11_back_4 ?_
  refine lv_iload_n hx hb dX11_back_7 rfl (lv_at hl 1 rfl) ?_
  have hPc_1 := hP.sub (ws' := [(rk2, .inr (6, [.int 4, .int 8, .ref cak2, .int 0]))]) [2] rfl
  have hKc_2 := hK.sub (tys' := []) [] rfl
  refine vp_callSi (va_Run.run (va_runV (As := [.int na]) (rest := []) ⟨hx, hb, hml, hown, hts⟩ (k_has0 l dC dI rk2 (.int 4) (.int 8) (.ref cak2) na) (cwV 1 hts gX11_back_X6_has rfl rfl rfl (by decide +kernel) ⟨Nat.le_of_ble_eq_true rfl, Nat.le_of_ble_eq_true rfl⟩) ⟨fun a U g mk q => by obtain ⟨q0, qP, qK⟩ := q; exact ⟨q0, qP, va_K.moved (u := U) (U := U.calling g mk a) (Vm.Alike.refl U.vm) qK⟩, va_recv hK hP (ci := 6) (q0 := 2) rfl rfl, fun U hU hW => ⟨rfl, by rw [hU]; exact hPc_1, va_K.moved hW.alike hKc_2⟩⟩ rfl rfl hl.1 rfl (lv_room (Nat.le_of_ble_eq_true rfl)) dX11_back_8 ⟨Nat.le_of_ble_eq_true rfl, Nat.le_of_ble_eq_true rfl⟩)) (fun r_3 hw_4 => ?_)
  obtain rfl : 0 = r_3 := hw_4.symm
  refine lv_if_ne (tgt := 21) hx hb dX11_back_11 (by decide) (fun c_5 => ?_) (fun c_5 => ?_)
  · exact absurd c_5 (by decide)
  · refine lv_aload_n hx hb dX11_back_14 rfl (lv_at hl 0 rfl) ?_
    refine lv_bipush (v := (-2)) hx hb dX11_back_15 (by decide) ?_
    have hPc := hP.sub (ws' := [(o, .inr (11, [.ref aw, .ref bk, .ref ai, .ref ak, .ref sc, .ref rd, .ref fo, .ref tx, .int 0, .ref ar, .ref atr, .ref ao])), (ar, .inl (cr, 3, .inl (fun _ => 0)))]) [0, 3] rfl
    have hDc := hD.sub (ws' := [(o, .inr (11, [.ref aw, .ref bk, .ref ai, .ref ak, .ref sc, .ref rd, .ref fo, .ref tx, .int 0, .ref ar, .ref atr, .ref ao])), (ar, .inl (cr, 3, .inl (fun _ => 0)))]) [0, 3] (by decide) rfl
    have hKc := hK.sub (tys' := [(cr, .int)]) [0] rfl
    have hFc := va_free (wc := [(o, .inr (11, [.ref aw, .ref bk, .ref ai, .ref ak, .ref sc, .ref rd, .ref fo, .ref tx, .int 0, .ref ar, .ref atr, .ref ao])), (ar, .inl (cr, 3, .inl (fun _ => 0)))]) hD hS hA [0, 3] rfl
    refine va_calli (va_runV (As := [.int (-2)]) (rest := []) ⟨hx, hb, hml, hown, hts⟩ (k_refuse l dC dI o (.ref aw) (.ref bk) (.ref ai) (.ref ak) (.ref sc) (.ref rd) (.ref fo) (.ref tx) (.int 0) ar (.ref atr) (.ref ao) cr (fun _ => 0) (-2) s.heap.size) (cwV 1 hts gX11_back_X11_refuse rfl rfl rfl (by decide +kernel) ⟨Nat.le_of_ble_eq_true rfl, Nat.le_of_ble_eq_true rfl⟩) ⟨fun a U g mk q => by obtain ⟨q0, q1, qP, qK, qD⟩ := q; exact ⟨q0, q1, qP, va_K.moved (u := U) (U := U.calling g mk a) (Vm.Alike.refl U.vm) qK, qD⟩, va_recv hK hP (ci := 11) (q0 := 0) rfl rfl, fun U hU hW => ⟨rfl, by rw [hU], by rw [hU]; exact hPc, va_K.moved hW.alike hKc, hDc.weaken (fun _ _ _ _ => trivial)⟩⟩ rfl rfl hl.1 rfl (lv_room (Nat.le_of_ble_eq_true rfl)) dX11_back_17 ⟨Nat.le_of_ble_eq_true rfl, Nat.le_of_ble_eq_true rfl⟩) hS (fun q _ h => hFc q h) hFc (fun r_6 u_ t H1 locs ht hvm hw_7 hB hz1 hk1 hS => ?_)
    obtain ⟨hP, hD⟩ := va_join (wr := [(bk, .inr (0, [.ref rk0, .ref rk1, .ref rk2, .ref rk3, .ref eak, .int 0])), (rk2, .inr (6, [.int 4, .int 8, .ref cak2, .int 0]))]) (w1 := []) hP hD [0, 3] [1, 2] rfl rfl (by decide) (by decide) hk1 hFc tz_P0 tz_D0
    generalize H1 = H at hP hS ⊢
    have hP : va_P (dC, dI) vwCl [(bk, .inr (0, [.ref rk0, .ref rk1, .ref rk2, .ref rk3, .ref eak, .int 0])), (rk2, .inr (6, [.int 4, .int 8, .ref cak2, .int 0]))] H := hP
    have hD : va_D A [(bk, .inr (0, [.ref rk0, .ref rk1, .ref rk2, .ref rk3, .ref eak, .int 0])), (rk2, .inr (6, [.int 4, .int 8, .ref cak2, .int 0]))] := hD
    obtain rfl : (-2) = r_6 := hw_7.symm
    exact W.iret (v := (-2)) hx hb hr (fun t ht hW => ⟨⟨(-2), (), rfl, rfl, trivial⟩, hS.F ht⟩) hS.2.2 dX11_back_20
set_option maxRecDepth 20000 in
theorem ggX11_undo_X0_restoreCounts : GoodIn wsX11_undo wsX0_restoreCounts := goodIn_r _ [7, 8, 9, 10, 11, 12, 13, 14, 15, 16, 17, 18, 19, 20, 21, 22, 23, 24, 25, 26, 53, 54, 55, 56, 57, 58, 59, 60, 61, 62] (by decide +kernel) (by decide +kernel)
set_option maxRecDepth 20000 in
theorem gX11_undo_X0_restoreCounts : GoodIn wsX11_undo (wsV RX11 152 RX0 yX0_restoreCounts wsX0_restoreCounts) := goodIn_app (goodIn_of _ (by decide +kernel)) ggX11_undo_X0_restoreCounts
set_option maxRecDepth 20000 in
theorem ggX11_undo_X11_refuse : GoodIn wsX11_undo wsX11_refuse := goodIn_r _ [31, 32, 33, 34, 30, 35, 36, 41, 42, 43, 44, 45, 46, 47, 48, 49, 50, 51, 52] (by decide +kernel) (by decide +kernel)
set_option maxRecDepth 20000 in
theorem gX11_undo_X11_refuse : GoodIn wsX11_undo (wsV RX11 106 RX11 yX11_refuse wsX11_refuse) := goodIn_app (goodIn_of _ (by decide +kernel)) ggX11_undo_X11_refuse
theorem dX11_undo_0 : decode cX11_undo 0 = .ok (.aload_n 0, 1) := by decide +kernel
theorem dX11_undo_1 : decode cX11_undo 1 = .ok (.getfield 34, 3) := by decide +kernel
theorem dX11_undo_4 : decode cX11_undo 4 = .ok (.invokevirtual 152, 3) := by decide +kernel
theorem dX11_undo_7 : decode cX11_undo 7 = .ok (.ifCond .ne 10, 3) := by decide +kernel
theorem dX11_undo_10 : decode cX11_undo 10 = .ok (.aload_n 0, 1) := by decide +kernel
theorem dX11_undo_11 : decode cX11_undo 11 = .ok (.bipush (-3), 2) := by decide +kernel
theorem dX11_undo_13 : decode cX11_undo 13 = .ok (.invokevirtual 106, 3) := by decide +kernel
theorem dX11_undo_16 : decode cX11_undo 16 = .ok (.ireturn, 1) := by decide +kernel
set_option maxRecDepth 20000 in
theorem iw_k_x_undo_X11 : ∀ w ∈ wsX110, w ∈ wsX11_undo := by decide +kernel
set_option maxHeartbeats 4000000 in
set_option maxRecDepth 100000 in
theorem k_x_undo (l : Launch) (dC : Nat → ClassId) (dI : Nat → Nat → Nat) (o : Nat) (aw : Nat) (bk : Nat) (ai : Nat) (ak : Nat) (sc : Nat) (rd : Nat) (fo : Nat) (tx : Nat) (ar : Nat) (atr : Nat) (ao : Nat) (rk0 : Nat) (rk1 : Nat) (rk2 : Nat) (rk3 : Nat) (eak : Nat) (cr : ClassId) (sz : Nat) : Met l yX11_undo wsX11_undo ({ frames := 2, cells := 0, slots := 0, locals := 44 }) (va_Pc [.ref o] (fun U => U.heap.size = sz ∧ va_P (dC, dI) vwCl [(o, .inr (11, [.ref aw, .ref bk, .ref ai, .ref ak, .ref sc, .ref rd, .ref fo, .ref tx, .int 0, .ref ar, .ref atr, .ref ao])), (bk, .inr (0, [.ref rk0, .ref rk1, .ref rk2, .ref rk3, .ref eak, .int 0])), (ar, .inl (cr, 3, .inl (fun _ => 0)))] U.heap ∧ va_K (dC, dI) vwCl [(cr, .int)] U ∧ va_D (fun _ => True) [(o, .inr (11, [.ref aw, .ref bk, .ref ai, .ref ak, .ref sc, .ref rd, .ref fo, .ref tx, .int 0, .ref ar, .ref atr, .ref ao])), (bk, .inr (0, [.ref rk0, .ref rk1, .ref rk2, .ref rk3, .ref eak, .int 0])), (ar, .inl (cr, 3, .inl (fun _ => 0)))])) (va_Qi (fun (r : Int32) (_ : Unit) => r = (-3)) (fun _ _ => True) (va_A [(o, .inr (11, [.ref aw, .ref bk, .ref ai, .ref ak, .ref sc, .ref rd, .ref fo, .ref tx, .int 0, .ref ar, .ref atr, .ref ao])), (bk, .inr (0, [.ref rk0, .ref rk1, .ref rk2, .ref rk3, .ref eak, .int 0])), (ar, .inl (cr, 3, .inl (fun _ => 0)))] sz)) 0 0 (va_A [(o, .inr (11, [.ref aw, .ref bk, .ref ai, .ref ak, .ref sc, .ref rd, .ref fo, .ref tx, .int 0, .ref ar, .ref atr, .ref ao])), (bk, .inr (0, [.ref rk0, .ref rk1, .ref rk2, .ref rk3, .ref eak, .int 0])), (ar, .inl (cr, 3, .inl (fun _ => 0)))] sz) := by
  refine Met.ofW (cc := cX11_undo) (maxL := 1) (ret := (some .int)) (by decide) rfl ?_
  intro p e s m args below meth c s₁ B hml hv
  obtain ⟨rfl, hsz, hP, hK, hD0⟩ := hv
  have hx := B.exec
  have hb := B.bytes
  have hr := B.returns
  have hts := atoms_spec (ws := wsX11_undo) B.pre
  have hown : s.vm.findClass RX11 = some m.cls := findClass_of_methodNamed B.named
  have hlocks := B.notSynchronized
  subst hsz
  have hD := hD0.self (sz := s.heap.size)
  generalize hAe : va_A [(o, .inr (11, [.ref aw, .ref bk, .ref ai, .ref ak, .ref sc, .ref rd, .ref fo, .ref tx, .int 0, .ref ar, .ref atr, .ref ao])), (bk, .inr (0, [.ref rk0, .ref rk1, .ref rk2, .ref rk3, .ref eak, .int 0])), (ar, .inl (cr, 3, .inl (fun _ => 0)))] s.heap.size = A at hD ⊢
  have hA : ∀ q : Nat, s.heap.size ≤ q → A q := fun q h => by rw [← hAe]; exact Or.inr h
  have hS : va_S A s.heap s.heap [] := va_S.rf
  have hP : va_P (dC, dI) vwCl [(o, .inr (11, [.ref aw, .ref bk, .ref ai, .ref ak, .ref sc, .ref rd, .ref fo, .ref tx, .int 0, .ref ar, .ref atr, .ref ao])), (bk, .inr (0, [.ref rk0, .ref rk1, .ref rk2, .ref rk3, .ref eak, .int 0])), (ar, .inl (cr, 3, .inl (fun _ => 0)))] s.heap := hP
  have hl := lv_entry ([.ref o]) (n := 1) (Nat.le_of_ble_eq_true rfl)
  rw [lg_entry_eq]
  generalize (lg_sl ([.ref o]) ++ List.replicate (1 - (lg_sl ([.ref o])).length) Slot.unset).toArray = ls at hl ⊢
  have hl : lv_has ls 1 [(0, .ref o)] := hl
  refine lv_aload_n hx hb dX11_undo_0 rfl (lv_at hl 0 rfl) ?_
  refine va_get (D := (dC, dI)) (ci := 11) (v := .ref bk) (C := RX11) (T := TX11) (N := 12) hx hb hts iw_k_x_undo_X11 hown hK hP 0 rfl rfl 1 (by decide) (hts (.fieldLink RX11 34 "ThriceCounted" "bank" "LThriceCounted$Bank;") (by decide +kernel)) (fun _ h9 => h9) rfl dX11_undo_1 ?_
  have hPc_1 := hP.sub (ws' := [(bk, .inr (0, [.ref rk0, .ref rk1, .ref rk2, .ref rk3, .ref eak, .int 0]))]) [1] rfl
  have hKc_2 := hK.sub (tys' := []) [] rfl
  refine vp_callSi (va_Run.run (va_runV (As := []) (rest := []) ⟨hx, hb, hml, hown, hts⟩ (k_restore0 l dC dI bk (.ref rk0) (.ref rk1) (.ref rk2) (.ref rk3) (.ref eak)) (cwV 0 hts gX11_undo_X0_restoreCounts rfl rfl rfl (by decide +kernel) ⟨Nat.le_of_ble_eq_true rfl, Nat.le_of_ble_eq_true rfl⟩) ⟨fun a U g mk q => by obtain ⟨q0, qP, qK⟩ := q; exact ⟨q0, qP, va_K.moved (u := U) (U := U.calling g mk a) (Vm.Alike.refl U.vm) qK⟩, va_recv hK hP (ci := 0) (q0 := 1) rfl rfl, fun U hU hW => ⟨rfl, by rw [hU]; exact hPc_1, va_K.moved hW.alike hKc_2⟩⟩ rfl rfl hl.1 rfl (lv_room (Nat.le_of_ble_eq_true rfl)) dX11_undo_4 ⟨Nat.le_of_ble_eq_true rfl, Nat.le_of_ble_eq_true rfl⟩)) (fun r_3 hw_4 => ?_)
  obtain rfl : 0 = r_3 := hw_4.symm
  refine lv_if_ne (tgt := 17) hx hb dX11_undo_7 (by decide) (fun c_5 => ?_) (fun c_5 => ?_)
  · exact absurd c_5 (by decide)
  · refine lv_aload_n hx hb dX11_undo_10 rfl (lv_at hl 0 rfl) ?_
    refine lv_bipush (v := (-3)) hx hb dX11_undo_11 (by decide) ?_
    have hPc := hP.sub (ws' := [(o, .inr (11, [.ref aw, .ref bk, .ref ai, .ref ak, .ref sc, .ref rd, .ref fo, .ref tx, .int 0, .ref ar, .ref atr, .ref ao])), (ar, .inl (cr, 3, .inl (fun _ => 0)))]) [0, 2] rfl
    have hDc := hD.sub (ws' := [(o, .inr (11, [.ref aw, .ref bk, .ref ai, .ref ak, .ref sc, .ref rd, .ref fo, .ref tx, .int 0, .ref ar, .ref atr, .ref ao])), (ar, .inl (cr, 3, .inl (fun _ => 0)))]) [0, 2] (by decide) rfl
    have hKc := hK.sub (tys' := [(cr, .int)]) [0] rfl
    have hFc := va_free (wc := [(o, .inr (11, [.ref aw, .ref bk, .ref ai, .ref ak, .ref sc, .ref rd, .ref fo, .ref tx, .int 0, .ref ar, .ref atr, .ref ao])), (ar, .inl (cr, 3, .inl (fun _ => 0)))]) hD hS hA [0, 2] rfl
    refine va_calli (va_runV (As := [.int (-3)]) (rest := []) ⟨hx, hb, hml, hown, hts⟩ (k_refuse l dC dI o (.ref aw) (.ref bk) (.ref ai) (.ref ak) (.ref sc) (.ref rd) (.ref fo) (.ref tx) (.int 0) ar (.ref atr) (.ref ao) cr (fun _ => 0) (-3) s.heap.size) (cwV 1 hts gX11_undo_X11_refuse rfl rfl rfl (by decide +kernel) ⟨Nat.le_of_ble_eq_true rfl, Nat.le_of_ble_eq_true rfl⟩) ⟨fun a U g mk q => by obtain ⟨q0, q1, qP, qK, qD⟩ := q; exact ⟨q0, q1, qP, va_K.moved (u := U) (U := U.calling g mk a) (Vm.Alike.refl U.vm) qK, qD⟩, va_recv hK hP (ci := 11) (q0 := 0) rfl rfl, fun U hU hW => ⟨rfl, by rw [hU], by rw [hU]; exact hPc, va_K.moved hW.alike hKc, hDc.weaken (fun _ _ _ _ => trivial)⟩⟩ rfl rfl hl.1 rfl (lv_room (Nat.le_of_ble_eq_true rfl)) dX11_undo_13 ⟨Nat.le_of_ble_eq_true rfl, Nat.le_of_ble_eq_true rfl⟩) hS (fun q _ h => hFc q h) hFc (fun r_6 u_ t H1 locs ht hvm hw_7 hB hz1 hk1 hS => ?_)
    obtain ⟨hP, hD⟩ := va_join (wr := [(bk, .inr (0, [.ref rk0, .ref rk1, .ref rk2, .ref rk3, .ref eak, .int 0]))]) (w1 := []) hP hD [0, 2] [1] rfl rfl (by decide) (by decide) hk1 hFc tz_P0 tz_D0
    generalize H1 = H at hP hS ⊢
    have hP : va_P (dC, dI) vwCl [(bk, .inr (0, [.ref rk0, .ref rk1, .ref rk2, .ref rk3, .ref eak, .int 0]))] H := hP
    have hD : va_D A [(bk, .inr (0, [.ref rk0, .ref rk1, .ref rk2, .ref rk3, .ref eak, .int 0]))] := hD
    obtain rfl : (-3) = r_6 := hw_7.symm
    exact W.iret (v := (-3)) hx hb hr (fun t ht hW => ⟨⟨(-3), (), rfl, rfl, trivial⟩, hS.F ht⟩) hS.2.2 dX11_undo_16
set_option maxRecDepth 20000 in
theorem ggX11_type_X11_within : GoodIn wsX11_type wsX11_within := goodIn_r _ [6] (by decide +kernel) (by decide +kernel)
set_option maxRecDepth 20000 in
theorem gX11_type_X11_within : GoodIn wsX11_type (va_wsS RX11 102 yX11_within wsX11_within) := goodIn_app (goodIn_of _ (by decide +kernel)) ggX11_type_X11_within
set_option maxRecDepth 20000 in
theorem ggX11_type_X11_refuse : GoodIn wsX11_type wsX11_refuse := goodIn_r _ [10, 11, 12, 13, 5, 14, 15, 16, 17, 18, 19, 20, 21, 22, 23, 24, 25, 26, 27] (by decide +kernel) (by decide +kernel)
set_option maxRecDepth 20000 in
theorem gX11_type_X11_refuse : GoodIn wsX11_type (wsV RX11 106 RX11 yX11_refuse wsX11_refuse) := goodIn_app (goodIn_of _ (by decide +kernel)) ggX11_type_X11_refuse
theorem dX11_type_0 : decode cX11_type 0 = .ok (.iload_n 1, 1) := by decide +kernel
theorem dX11_type_1 : decode cX11_type 1 = .ok (.iconst 0, 1) := by decide +kernel
theorem dX11_type_2 : decode cX11_type 2 = .ok (.bipush 127, 2) := by decide +kernel
theorem dX11_type_4 : decode cX11_type 4 = .ok (.invokestatic 102, 3) := by decide +kernel
theorem dX11_type_7 : decode cX11_type 7 = .ok (.ifCond .ne 10, 3) := by decide +kernel
theorem dX11_type_17 : decode cX11_type 17 = .ok (.aload_n 0, 1) := by decide +kernel
theorem dX11_type_18 : decode cX11_type 18 = .ok (.getfield 71, 3) := by decide +kernel
theorem dX11_type_21 : decode cX11_type 21 = .ok (.ifCond .lt 15, 3) := by decide +kernel
theorem dX11_type_24 : decode cX11_type 24 = .ok (.aload_n 0, 1) := by decide +kernel
theorem dX11_type_25 : decode cX11_type 25 = .ok (.getfield 71, 3) := by decide +kernel
theorem dX11_type_28 : decode cX11_type 28 = .ok (.aload_n 0, 1) := by decide +kernel
theorem dX11_type_29 : decode cX11_type 29 = .ok (.getfield 67, 3) := by decide +kernel
theorem dX11_type_32 : decode cX11_type 32 = .ok (.arraylength, 1) := by decide +kernel
theorem dX11_type_33 : decode cX11_type 33 = .ok (.if_icmp .lt 10, 3) := by decide +kernel
theorem dX11_type_43 : decode cX11_type 43 = .ok (.aload_n 0, 1) := by decide +kernel
theorem dX11_type_44 : decode cX11_type 44 = .ok (.getfield 67, 3) := by decide +kernel
theorem dX11_type_47 : decode cX11_type 47 = .ok (.aload_n 0, 1) := by decide +kernel
theorem dX11_type_48 : decode cX11_type 48 = .ok (.getfield 71, 3) := by decide +kernel
theorem dX11_type_51 : decode cX11_type 51 = .ok (.iload_n 1, 1) := by decide +kernel
theorem dX11_type_52 : decode cX11_type 52 = .ok (.i2b, 1) := by decide +kernel
theorem dX11_type_53 : decode cX11_type 53 = .ok (.bastore, 1) := by decide +kernel
theorem dX11_type_54 : decode cX11_type 54 = .ok (.aload_n 0, 1) := by decide +kernel
theorem dX11_type_55 : decode cX11_type 55 = .ok (.dup, 1) := by decide +kernel
theorem dX11_type_56 : decode cX11_type 56 = .ok (.getfield 71, 3) := by decide +kernel
theorem dX11_type_59 : decode cX11_type 59 = .ok (.iconst 1, 1) := by decide +kernel
theorem dX11_type_60 : decode cX11_type 60 = .ok (.iadd, 1) := by decide +kernel
theorem dX11_type_61 : decode cX11_type 61 = .ok (.putfield 71, 3) := by decide +kernel
theorem dX11_type_64 : decode cX11_type 64 = .ok (.aload_n 0, 1) := by decide +kernel
theorem dX11_type_65 : decode cX11_type 65 = .ok (.getfield 71, 3) := by decide +kernel
theorem dX11_type_68 : decode cX11_type 68 = .ok (.ireturn, 1) := by decide +kernel
theorem dX11_type_10 : decode cX11_type 10 = .ok (.aload_n 0, 1) := by decide +kernel
theorem dX11_type_11 : decode cX11_type 11 = .ok (.bipush (-2), 2) := by decide +kernel
theorem dX11_type_13 : decode cX11_type 13 = .ok (.invokevirtual 106, 3) := by decide +kernel
theorem dX11_type_16 : decode cX11_type 16 = .ok (.ireturn, 1) := by decide +kernel
set_option maxRecDepth 20000 in
theorem iw_k_x_type_X11 : ∀ w ∈ wsX110, w ∈ wsX11_type := by decide +kernel
set_option maxHeartbeats 4000000 in
set_option maxRecDepth 100000 in
theorem k_x_type (l : Launch) (dC : Nat → ClassId) (dI : Nat → Nat → Nat) (o : Nat) (aw : Nat) (bk : Nat) (ai : Nat) (ak : Nat) (sc : Nat) (rd : Nat) (fo : Nat) (tx : Nat) (ar : Nat) (atr : Nat) (ao : Nat) (ct : ClassId) (cr : ClassId) (na : Int32) (sz : Nat) : Met l yX11_type wsX11_type ({ frames := 2, cells := 0, slots := 0, locals := 44 }) (va_Pc [.ref o, .int na] (fun U => U.heap.size = sz ∧ va_P (dC, dI) vwCl [(o, .inr (11, [.ref aw, .ref bk, .ref ai, .ref ak, .ref sc, .ref rd, .ref fo, .ref tx, .int 0, .ref ar, .ref atr, .ref ao])), (tx, .inl (ct, 150, .inl (fun _ => 0))), (ar, .inl (cr, 3, .inl (fun _ => 0)))] U.heap ∧ va_K (dC, dI) vwCl [(ct, .byte), (cr, .int)] U ∧ va_D (fun _ => True) [(o, .inr (11, [.ref aw, .ref bk, .ref ai, .ref ak, .ref sc, .ref rd, .ref fo, .ref tx, .int 0, .ref ar, .ref atr, .ref ao])), (tx, .inl (ct, 150, .inl (fun _ => 0))), (ar, .inl (cr, 3, .inl (fun _ => 0)))])) (va_Qi (fun (r : Int32) (_ : Unit) => r = (if 0 ≤ na ∧ na ≤ 127 then 1 else (-2))) (fun _ _ => True) (va_A [(o, .inr (11, [.ref aw, .ref bk, .ref ai, .ref ak, .ref sc, .ref rd, .ref fo, .ref tx, .int 0, .ref ar, .ref atr, .ref ao])), (tx, .inl (ct, 150, .inl (fun _ => 0))), (ar, .inl (cr, 3, .inl (fun _ => 0)))] sz)) 0 0 (va_A [(o, .inr (11, [.ref aw, .ref bk, .ref ai, .ref ak, .ref sc, .ref rd, .ref fo, .ref tx, .int 0, .ref ar, .ref atr, .ref ao])), (tx, .inl (ct, 150, .inl (fun _ => 0))), (ar, .inl (cr, 3, .inl (fun _ => 0)))] sz) := by
  refine Met.ofW (cc := cX11_type) (maxL := 2) (ret := (some .int)) (by decide) rfl ?_
  intro p e s m args below meth c s₁ B hml hv
  obtain ⟨rfl, hsz, hP, hK, hD0⟩ := hv
  have hx := B.exec
  have hb := B.bytes
  have hr := B.returns
  have hts := atoms_spec (ws := wsX11_type) B.pre
  have hown : s.vm.findClass RX11 = some m.cls := findClass_of_methodNamed B.named
  have hlocks := B.notSynchronized
  subst hsz
  have hD := hD0.self (sz := s.heap.size)
  generalize hAe : va_A [(o, .inr (11, [.ref aw, .ref bk, .ref ai, .ref ak, .ref sc, .ref rd, .ref fo, .ref tx, .int 0, .ref ar, .ref atr, .ref ao])), (tx, .inl (ct, 150, .inl (fun _ => 0))), (ar, .inl (cr, 3, .inl (fun _ => 0)))] s.heap.size = A at hD ⊢
  have hA : ∀ q : Nat, s.heap.size ≤ q → A q := fun q h => by rw [← hAe]; exact Or.inr h
  have hS : va_S A s.heap s.heap [] := va_S.rf
  have hP : va_P (dC, dI) vwCl [(o, .inr (11, [.ref aw, .ref bk, .ref ai, .ref ak, .ref sc, .ref rd, .ref fo, .ref tx, .int 0, .ref ar, .ref atr, .ref ao])), (tx, .inl (ct, 150, .inl (fun _ => 0))), (ar, .inl (cr, 3, .inl (fun _ => 0)))] s.heap := hP
  have hl := lv_entry ([.ref o, .int na]) (n := 2) (Nat.le_of_ble_eq_true rfl)
  rw [lg_entry_eq]
  generalize (lg_sl ([.ref o, .int na]) ++ List.replicate (2 - (lg_sl ([.ref o, .int na])).length) Slot.unset).toArray = ls at hl ⊢
  have hl : lv_has ls 2 [(0, .ref o), (1, .int na)] := hl
  refine lv_iload_n hx hb dX11_type_0 rfl (lv_at hl 1 rfl) ?_
  refine lv_iconst (v := 0) hx hb dX11_type_1 (by decide) ?_
  refine lv_bipush (v := 127) hx hb dX11_type_2 (by decide) ?_
  refine vp_callSi (va_Run.run (va_runS (As := [.int na, .int 0, .int 127]) (rest := []) ⟨hx, hb, hml, hown, hts⟩ (k_within l dC dI na 0 127) (va_cwS 3 hts gX11_type_X11_within rfl rfl rfl (by decide +kernel) ⟨Nat.le_of_ble_eq_true rfl, Nat.le_of_ble_eq_true rfl⟩) ⟨fun a U g mk q => ⟨q.1, trivial⟩, fun U hU hW => ⟨rfl, trivial⟩⟩ rfl rfl hl.1 rfl (lv_room (Nat.le_of_ble_eq_true rfl)) dX11_type_4 ⟨Nat.le_of_ble_eq_true rfl, Nat.le_of_ble_eq_true rfl⟩)) (fun r_1 hw_2 => ?_)
  by_cases hc_3 : 0 ≤ na ∧ na ≤ 127
  · obtain rfl : 1 = r_1 := (hw_2.trans (if_pos hc_3)).symm
    refine lv_if_ne (tgt := 17) hx hb dX11_type_7 (by decide) (fun c_4 => ?_) (fun c_4 => ?_)
    · refine lv_aload_n hx hb dX11_type_17 rfl (lv_at hl 0 rfl) ?_
      refine va_get (D := (dC, dI)) (ci := 11) (v := .int 0) (C := RX11) (T := TX11) (N := 12) hx hb hts iw_k_x_type_X11 hown hK hP 0 rfl rfl 8 (by decide) (hts (.fieldLink RX11 71 "ThriceCounted" "typed" "I") (by decide +kernel)) (fun _ h9 => h9) rfl dX11_type_18 ?_
      refine lv_if_lt (tgt := 36) hx hb dX11_type_21 (by decide) (fun c_5 => ?_) (fun c_5 => ?_)
      · exact absurd c_5 (by decide)
      · refine lv_aload_n hx hb dX11_type_24 rfl (lv_at hl 0 rfl) ?_
        refine va_get (D := (dC, dI)) (ci := 11) (v := .int 0) (C := RX11) (T := TX11) (N := 12) hx hb hts iw_k_x_type_X11 hown hK hP 0 rfl rfl 8 (by decide) (hts (.fieldLink RX11 71 "ThriceCounted" "typed" "I") (by decide +kernel)) (fun _ h9 => h9) rfl dX11_type_25 ?_
        refine lv_aload_n hx hb dX11_type_28 rfl (lv_at hl 0 rfl) ?_
        refine va_get (D := (dC, dI)) (ci := 11) (v := .ref tx) (C := RX11) (T := TX11) (N := 12) hx hb hts iw_k_x_type_X11 hown hK hP 0 rfl rfl 7 (by decide) (hts (.fieldLink RX11 67 "ThriceCounted" "text" "[B") (by decide +kernel)) (fun _ h9 => h9) rfl dX11_type_29 ?_
        refine va_alen (v := 150) hx hb hK hP 1 0 rfl rfl rfl dX11_type_32 ?_
        refine lv_icmp_lt (tgt := 43) hx hb dX11_type_33 (by decide) (fun c_6 => ?_) (fun c_6 => ?_)
        · refine lv_aload_n hx hb dX11_type_43 rfl (lv_at hl 0 rfl) ?_
          refine va_get (D := (dC, dI)) (ci := 11) (v := .ref tx) (C := RX11) (T := TX11) (N := 12) hx hb hts iw_k_x_type_X11 hown hK hP 0 rfl rfl 7 (by decide) (hts (.fieldLink RX11 67 "ThriceCounted" "text" "[B") (by decide +kernel)) (fun _ h9 => h9) rfl dX11_type_44 ?_
          refine lv_aload_n hx hb dX11_type_47 rfl (lv_at hl 0 rfl) ?_
          refine va_get (D := (dC, dI)) (ci := 11) (v := .int 0) (C := RX11) (T := TX11) (N := 12) hx hb hts iw_k_x_type_X11 hown hK hP 0 rfl rfl 8 (by decide) (hts (.fieldLink RX11 71 "ThriceCounted" "typed" "I") (by decide +kernel)) (fun _ h9 => h9) rfl dX11_type_48 ?_
          refine lv_iload_n hx hb dX11_type_51 rfl (lv_at hl 1 rfl) ?_
          refine lv_i2b (v := na.toInt8.toInt32) hx hb dX11_type_52 rfl ?_
          refine va_bast hx hb hK hP hD hS 1 0 rfl rfl (show ¬ ((0 : Int32) < 0 ∨ 150 ≤ (0 : Int32).toNatClampNeg) by decide) dX11_type_53 (fun H locs hP hD hS => ?_)
          generalize (upd (fun _ => 0) (Int32.toNatClampNeg 0) (vp_nar .byte na.toInt8.toInt32)) = f_7 at hP hD
          have hP : va_P (dC, dI) vwCl [(o, .inr (11, [.ref aw, .ref bk, .ref ai, .ref ak, .ref sc, .ref rd, .ref fo, .ref tx, .int 0, .ref ar, .ref atr, .ref ao])), (tx, .inl (ct, 150, .inl f_7)), (ar, .inl (cr, 3, .inl (fun _ => 0)))] H := hP
          have hD : va_D A [(o, .inr (11, [.ref aw, .ref bk, .ref ai, .ref ak, .ref sc, .ref rd, .ref fo, .ref tx, .int 0, .ref ar, .ref atr, .ref ao])), (tx, .inl (ct, 150, .inl f_7)), (ar, .inl (cr, 3, .inl (fun _ => 0)))] := hD
          refine lv_aload_n hx hb dX11_type_54 rfl (lv_at hl 0 rfl) ?_
          refine lv_dup hx hb dX11_type_55 rfl ?_
          refine va_get (D := (dC, dI)) (ci := 11) (v := .int 0) (C := RX11) (T := TX11) (N := 12) hx hb hts iw_k_x_type_X11 hown hK hP 0 rfl rfl 8 (by decide) (hts (.fieldLink RX11 71 "ThriceCounted" "typed" "I") (by decide +kernel)) (fun _ h9 => h9) rfl dX11_type_56 ?_
          refine lv_iconst (v := 1) hx hb dX11_type_59 (by decide) ?_
          refine lv_iadd hx hb dX11_type_60 ?_
          refine tz_i 1 (by decide) ?_
          refine va_put (D := (dC, dI)) (ci := 11) (v := .int 1) (ty := .int) (C := RX11) (T := TX11) (N := 12) hx hb hts iw_k_x_type_X11 tyX11 tyX11_ok nmX11 hown hK hP hD hS 0 rfl rfl 8 (by decide) (hts (.fieldLink RX11 71 "ThriceCounted" "typed" "I") (by decide +kernel)) (fun _ h9 => h9) rfl (by decide +kernel) rfl rfl (Nat.le_of_ble_eq_true rfl) dX11_type_61 (fun H locs hP hD hS => ?_)
          have hP : va_P (dC, dI) vwCl [(o, .inr (11, [.ref aw, .ref bk, .ref ai, .ref ak, .ref sc, .ref rd, .ref fo, .ref tx, .int 1, .ref ar, .ref atr, .ref ao])), (tx, .inl (ct, 150, .inl f_7)), (ar, .inl (cr, 3, .inl (fun _ => 0)))] H := hP
          have hD : va_D A [(o, .inr (11, [.ref aw, .ref bk, .ref ai, .ref ak, .ref sc, .ref rd, .ref fo, .ref tx, .int 1, .ref ar, .ref atr, .ref ao])), (tx, .inl (ct, 150, .inl f_7)), (ar, .inl (cr, 3, .inl (fun _ => 0)))] := hD
          refine lv_aload_n hx hb dX11_type_64 rfl (lv_at hl 0 rfl) ?_
          refine va_get (D := (dC, dI)) (ci := 11) (v := .int 1) (C := RX11) (T := TX11) (N := 12) hx hb hts iw_k_x_type_X11 hown hK hP 0 rfl rfl 8 (by decide) (hts (.fieldLink RX11 71 "ThriceCounted" "typed" "I") (by decide +kernel)) (fun _ h9 => h9) rfl dX11_type_65 ?_
          exact W.iret (v := 1) hx hb hr (fun t ht hW => ⟨⟨1, (), rfl, (if_pos hc_3).symm, trivial⟩, hS.F ht⟩) hS.2.2 dX11_type_68
        · exact absurd c_6 (by decide)
    · exact absurd c_4 (by decide)
  · obtain rfl : 0 = r_1 := (hw_2.trans (if_neg hc_3)).symm
    refine lv_if_ne (tgt := 17) hx hb dX11_type_7 (by decide) (fun c_8 => ?_) (fun c_8 => ?_)
    · exact absurd c_8 (by decide)
    · refine lv_aload_n hx hb dX11_type_10 rfl (lv_at hl 0 rfl) ?_
      refine lv_bipush (v := (-2)) hx hb dX11_type_11 (by decide) ?_
      have hPc := hP.sub (ws' := [(o, .inr (11, [.ref aw, .ref bk, .ref ai, .ref ak, .ref sc, .ref rd, .ref fo, .ref tx, .int 0, .ref ar, .ref atr, .ref ao])), (ar, .inl (cr, 3, .inl (fun _ => 0)))]) [0, 2] rfl
      have hDc := hD.sub (ws' := [(o, .inr (11, [.ref aw, .ref bk, .ref ai, .ref ak, .ref sc, .ref rd, .ref fo, .ref tx, .int 0, .ref ar, .ref atr, .ref ao])), (ar, .inl (cr, 3, .inl (fun _ => 0)))]) [0, 2] (by decide) rfl
      have hKc := hK.sub (tys' := [(cr, .int)]) [1] rfl
      have hFc := va_free (wc := [(o, .inr (11, [.ref aw, .ref bk, .ref ai, .ref ak, .ref sc, .ref rd, .ref fo, .ref tx, .int 0, .ref ar, .ref atr, .ref ao])), (ar, .inl (cr, 3, .inl (fun _ => 0)))]) hD hS hA [0, 2] rfl
      refine va_calli (va_runV (As := [.int (-2)]) (rest := []) ⟨hx, hb, hml, hown, hts⟩ (k_refuse l dC dI o (.ref aw) (.ref bk) (.ref ai) (.ref ak) (.ref sc) (.ref rd) (.ref fo) (.ref tx) (.int 0) ar (.ref atr) (.ref ao) cr (fun _ => 0) (-2) s.heap.size) (cwV 1 hts gX11_type_X11_refuse rfl rfl rfl (by decide +kernel) ⟨Nat.le_of_ble_eq_true rfl, Nat.le_of_ble_eq_true rfl⟩) ⟨fun a U g mk q => by obtain ⟨q0, q1, qP, qK, qD⟩ := q; exact ⟨q0, q1, qP, va_K.moved (u := U) (U := U.calling g mk a) (Vm.Alike.refl U.vm) qK, qD⟩, va_recv hK hP (ci := 11) (q0 := 0) rfl rfl, fun U hU hW => ⟨rfl, by rw [hU], by rw [hU]; exact hPc, va_K.moved hW.alike hKc, hDc.weaken (fun _ _ _ _ => trivial)⟩⟩ rfl rfl hl.1 rfl (lv_room (Nat.le_of_ble_eq_true rfl)) dX11_type_13 ⟨Nat.le_of_ble_eq_true rfl, Nat.le_of_ble_eq_true rfl⟩) hS (fun q _ h => hFc q h) hFc (fun r_9 u_ t H1 locs ht hvm hw_10 hB hz1 hk1 hS => ?_)
      obtain ⟨hP, hD⟩ := va_join (wr := [(tx, .inl (ct, 150, .inl (fun _ => 0)))]) (w1 := []) hP hD [0, 2] [1] rfl rfl (by decide) (by decide) hk1 hFc tz_P0 tz_D0
      generalize H1 = H at hP hS ⊢
      have hP : va_P (dC, dI) vwCl [(tx, .inl (ct, 150, .inl (fun _ => 0)))] H := hP
      have hD : va_D A [(tx, .inl (ct, 150, .inl (fun _ => 0)))] := hD
      obtain rfl : (-2) = r_9 := hw_10.symm
      exact W.iret (v := (-2)) hx hb hr (fun t ht hW => ⟨⟨(-2), (), rfl, (if_neg hc_3).symm, trivial⟩, hS.F ht⟩) hS.2.2 dX11_type_16
theorem dX11_clear_0 : decode cX11_clear 0 = .ok (.aload_n 0, 1) := by decide +kernel
theorem dX11_clear_1 : decode cX11_clear 1 = .ok (.getfield 71, 3) := by decide +kernel
theorem dX11_clear_4 : decode cX11_clear 4 = .ok (.istore_n 1, 1) := by decide +kernel
theorem dX11_clear_5 : decode cX11_clear 5 = .ok (.aload_n 0, 1) := by decide +kernel
theorem dX11_clear_6 : decode cX11_clear 6 = .ok (.iconst 0, 1) := by decide +kernel
theorem dX11_clear_7 : decode cX11_clear 7 = .ok (.putfield 71, 3) := by decide +kernel
theorem dX11_clear_10 : decode cX11_clear 10 = .ok (.iload_n 1, 1) := by decide +kernel
theorem dX11_clear_11 : decode cX11_clear 11 = .ok (.ireturn, 1) := by decide +kernel
set_option maxRecDepth 20000 in
theorem iw_k_x_clear_X11 : ∀ w ∈ wsX110, w ∈ wsX11_clear := by decide +kernel
set_option maxHeartbeats 4000000 in
set_option maxRecDepth 100000 in
theorem k_x_clear (l : Launch) (dC : Nat → ClassId) (dI : Nat → Nat → Nat) (o : Nat) (aw : Nat) (bk : Nat) (ai : Nat) (ak : Nat) (sc : Nat) (rd : Nat) (fo : Nat) (tx : Nat) (ar : Nat) (atr : Nat) (ao : Nat) (sz : Nat) : Met l yX11_clear wsX11_clear ({ frames := 0, cells := 0, slots := 0, locals := 0 }) (va_Pc [.ref o] (fun U => U.heap.size = sz ∧ va_P (dC, dI) vwCl [(o, .inr (11, [.ref aw, .ref bk, .ref ai, .ref ak, .ref sc, .ref rd, .ref fo, .ref tx, .int 0, .ref ar, .ref atr, .ref ao]))] U.heap ∧ va_K (dC, dI) vwCl [] U ∧ va_D (fun _ => True) [(o, .inr (11, [.ref aw, .ref bk, .ref ai, .ref ak, .ref sc, .ref rd, .ref fo, .ref tx, .int 0, .ref ar, .ref atr, .ref ao]))])) (va_Qi (fun (r : Int32) (_ : Unit) => r = 0) (fun _ _ => True) (va_A [(o, .inr (11, [.ref aw, .ref bk, .ref ai, .ref ak, .ref sc, .ref rd, .ref fo, .ref tx, .int 0, .ref ar, .ref atr, .ref ao]))] sz)) 0 0 (va_A [(o, .inr (11, [.ref aw, .ref bk, .ref ai, .ref ak, .ref sc, .ref rd, .ref fo, .ref tx, .int 0, .ref ar, .ref atr, .ref ao]))] sz) := by
  refine Met.ofW (cc := cX11_clear) (maxL := 2) (ret := (some .int)) (by decide) rfl ?_
  intro p e s m args below meth c s₁ B hml hv
  obtain ⟨rfl, hsz, hP, hK, hD0⟩ := hv
  have hx := B.exec
  have hb := B.bytes
  have hr := B.returns
  have hts := atoms_spec (ws := wsX11_clear) B.pre
  have hown : s.vm.findClass RX11 = some m.cls := findClass_of_methodNamed B.named
  have hlocks := B.notSynchronized
  subst hsz
  have hD := hD0.self (sz := s.heap.size)
  generalize hAe : va_A [(o, .inr (11, [.ref aw, .ref bk, .ref ai, .ref ak, .ref sc, .ref rd, .ref fo, .ref tx, .int 0, .ref ar, .ref atr, .ref ao]))] s.heap.size = A at hD ⊢
  have hA : ∀ q : Nat, s.heap.size ≤ q → A q := fun q h => by rw [← hAe]; exact Or.inr h
  have hS : va_S A s.heap s.heap [] := va_S.rf
  have hP : va_P (dC, dI) vwCl [(o, .inr (11, [.ref aw, .ref bk, .ref ai, .ref ak, .ref sc, .ref rd, .ref fo, .ref tx, .int 0, .ref ar, .ref atr, .ref ao]))] s.heap := hP
  have hl := lv_entry ([.ref o]) (n := 2) (Nat.le_of_ble_eq_true rfl)
  rw [lg_entry_eq]
  generalize (lg_sl ([.ref o]) ++ List.replicate (2 - (lg_sl ([.ref o])).length) Slot.unset).toArray = ls at hl ⊢
  have hl : lv_has ls 2 [(0, .ref o)] := hl
  refine lv_aload_n hx hb dX11_clear_0 rfl (lv_at hl 0 rfl) ?_
  refine va_get (D := (dC, dI)) (ci := 11) (v := .int 0) (C := RX11) (T := TX11) (N := 12) hx hb hts iw_k_x_clear_X11 hown hK hP 0 rfl rfl 8 (by decide) (hts (.fieldLink RX11 71 "ThriceCounted" "typed" "I") (by decide +kernel)) (fun _ h9 => h9) rfl dX11_clear_1 ?_
  refine lv_istore_n (lv' := [(1, .int 0), (0, .ref o)]) hx hb dX11_clear_4 rfl hl (by decide) rfl (fun ls hl => ?_)
  refine lv_aload_n hx hb dX11_clear_5 rfl (lv_at hl 1 rfl) ?_
  refine lv_iconst (v := 0) hx hb dX11_clear_6 (by decide) ?_
  refine va_put (D := (dC, dI)) (ci := 11) (v := .int 0) (ty := .int) (C := RX11) (T := TX11) (N := 12) hx hb hts iw_k_x_clear_X11 tyX11 tyX11_ok nmX11 hown hK hP hD hS 0 rfl rfl 8 (by decide) (hts (.fieldLink RX11 71 "ThriceCounted" "typed" "I") (by decide +kernel)) (fun _ h9 => h9) rfl (by decide +kernel) rfl rfl (Nat.le_of_ble_eq_true rfl) dX11_clear_7 (fun H locs hP hD hS => ?_)
  have hP : va_P (dC, dI) vwCl [(o, .inr (11, [.ref aw, .ref bk, .ref ai, .ref ak, .ref sc, .ref rd, .ref fo, .ref tx, .int 0, .ref ar, .ref atr, .ref ao]))] H := hP
  have hD : va_D A [(o, .inr (11, [.ref aw, .ref bk, .ref ai, .ref ak, .ref sc, .ref rd, .ref fo, .ref tx, .int 0, .ref ar, .ref atr, .ref ao]))] := hD
  refine lv_iload_n hx hb dX11_clear_10 rfl (lv_at hl 0 rfl) ?_
  exact W.iret (v := 0) hx hb hr (fun t ht hW => ⟨⟨0, (), rfl, rfl, trivial⟩, hS.F ht⟩) hS.2.2 dX11_clear_11
set_option maxRecDepth 20000 in
theorem ggX11_read_X5_parse : GoodIn wsX11_read wsX5_parse := goodIn_r _ [10, 11, 12, 13, 14, 15, 16, 17, 18, 19, 20, 21, 22, 23, 24, 25, 26, 27, 28, 29, 30, 31, 32, 33, 34, 35, 36, 37, 38, 39, 40, 41, 42, 43, 9, 44, 45, 46, 47, 48, 49, 50, 51, 52, 53, 54, 55, 56, 57, 58, 59, 60, 61, 62, 63, 64, 65, 66, 67, 68, 69, 70, 71, 72, 73, 74, 75, 76, 77, 78, 79, 80, 81, 82, 83, 84, 85, 86, 87, 88, 89, 90, 91, 92, 93, 94, 95, 96, 97, 98, 99, 100, 101, 102, 103, 104, 105, 106, 107, 108, 109, 110, 111, 112, 113, 114, 115, 116, 117, 118, 119, 120, 121, 122, 123, 124, 125, 126, 127, 128, 129, 130, 131, 132, 133, 134, 135, 136, 137, 138, 139, 140, 141, 142, 143, 144, 145, 146, 147, 148, 149, 150, 151, 152, 153, 154, 155, 156, 157, 158, 159, 160, 161, 162, 163, 164, 165, 166, 167, 168, 169, 170, 171, 172, 173, 174, 175, 176, 177, 178, 179, 180, 181, 182, 183, 184, 185, 186, 187, 188, 224, 225, 226, 227, 228, 229, 230, 231, 232, 233, 234, 235, 236, 237, 238, 239, 240, 241, 242] (by decide +kernel) (by decide +kernel)
set_option maxRecDepth 20000 in
theorem gX11_read_X5_parse : GoodIn wsX11_read (wsV RX11 155 RX5 yX5_parse wsX5_parse) := goodIn_app (goodIn_of _ (by decide +kernel)) ggX11_read_X5_parse
set_option maxRecDepth 20000 in
theorem ggX11_read_X5_fault : GoodIn wsX11_read wsX5_fault := goodIn_r _ [192, 45, 224, 225, 226, 227, 228, 229, 230, 231, 232] (by decide +kernel) (by decide +kernel)
set_option maxRecDepth 20000 in
theorem gX11_read_X5_fault : GoodIn wsX11_read (wsV RX11 159 RX5 yX5_fault wsX5_fault) := goodIn_app (goodIn_of _ (by decide +kernel)) ggX11_read_X5_fault
theorem dX11_read_0 : decode cX11_read 0 = .ok (.aload_n 0, 1) := by decide +kernel
theorem dX11_read_1 : decode cX11_read 1 = .ok (.getfield 56, 3) := by decide +kernel
theorem dX11_read_4 : decode cX11_read 4 = .ok (.aload_n 0, 1) := by decide +kernel
theorem dX11_read_5 : decode cX11_read 5 = .ok (.getfield 67, 3) := by decide +kernel
theorem dX11_read_8 : decode cX11_read 8 = .ok (.aload_n 0, 1) := by decide +kernel
theorem dX11_read_9 : decode cX11_read 9 = .ok (.getfield 71, 3) := by decide +kernel
theorem dX11_read_12 : decode cX11_read 12 = .ok (.invokevirtual 155, 3) := by decide +kernel
theorem dX11_read_15 : decode cX11_read 15 = .ok (.ifCond .ne 14, 3) := by decide +kernel
theorem dX11_read_18 : decode cX11_read 18 = .ok (.bipush (-10), 2) := by decide +kernel
theorem dX11_read_20 : decode cX11_read 20 = .ok (.aload_n 0, 1) := by decide +kernel
theorem dX11_read_21 : decode cX11_read 21 = .ok (.getfield 56, 3) := by decide +kernel
theorem dX11_read_24 : decode cX11_read 24 = .ok (.invokevirtual 159, 3) := by decide +kernel
theorem dX11_read_27 : decode cX11_read 27 = .ok (.isub, 1) := by decide +kernel
theorem dX11_read_28 : decode cX11_read 28 = .ok (.ireturn, 1) := by decide +kernel
set_option maxRecDepth 20000 in
theorem iw_k_x_read_X11 : ∀ w ∈ wsX110, w ∈ wsX11_read := by decide +kernel
set_option maxHeartbeats 4000000 in
set_option maxRecDepth 100000 in
theorem k_x_read (l : Launch) (dC : Nat → ClassId) (dI : Nat → Nat → Nat) (o : Nat) (aw : Nat) (bk : Nat) (ai : Nat) (ak : Nat) (sc : Nat) (rd : Nat) (fo : Nat) (tx : Nat) (ar : Nat) (atr : Nat) (ao : Nat) (bd : Nat) (td : Nat) (rd0 : Nat) (rd1 : Nat) (rd2 : Nat) (rd3 : Nat) (ead : Nat) (cad0 : Nat) (cad1 : Nat) (cad2 : Nat) (cad3 : Nat) (ct : ClassId) (sz : Nat) : Met l yX11_read wsX11_read ({ frames := 3, cells := 0, slots := 0, locals := 65 }) (va_Pc [.ref o] (fun U => U.heap.size = sz ∧ va_P (dC, dI) vwCl [(o, .inr (11, [.ref aw, .ref bk, .ref ai, .ref ak, .ref sc, .ref rd, .ref fo, .ref tx, .int 0, .ref ar, .ref atr, .ref ao])), (rd, .inr (5, [.ref bd, .ref td, .int 0, .int 0, .int 0, .int 0, .int 0, .int 0, .int 0])), (bd, .inr (0, [.ref rd0, .ref rd1, .ref rd2, .ref rd3, .ref ead, .int 0])), (rd0, .inr (6, [.int 1, .int 5, .ref cad0, .int 0])), (rd1, .inr (6, [.int 4, .int 5, .ref cad1, .int 0])), (rd2, .inr (6, [.int 4, .int 8, .ref cad2, .int 0])), (rd3, .inr (6, [.int 4, .int 6, .ref cad3, .int 0])), (tx, .inl (ct, 150, .inl (fun _ => 0)))] U.heap ∧ va_K (dC, dI) vwCl [(ct, .byte)] U ∧ va_D (fun _ => True) [(o, .inr (11, [.ref aw, .ref bk, .ref ai, .ref ak, .ref sc, .ref rd, .ref fo, .ref tx, .int 0, .ref ar, .ref atr, .ref ao])), (rd, .inr (5, [.ref bd, .ref td, .int 0, .int 0, .int 0, .int 0, .int 0, .int 0, .int 0])), (bd, .inr (0, [.ref rd0, .ref rd1, .ref rd2, .ref rd3, .ref ead, .int 0])), (rd0, .inr (6, [.int 1, .int 5, .ref cad0, .int 0])), (rd1, .inr (6, [.int 4, .int 5, .ref cad1, .int 0])), (rd2, .inr (6, [.int 4, .int 8, .ref cad2, .int 0])), (rd3, .inr (6, [.int 4, .int 6, .ref cad3, .int 0])), (tx, .inl (ct, 150, .inl (fun _ => 0)))] ∧ tz_N U)) (va_Qi (fun (r : Int32) (_ : Unit) => r = (-10)) (fun _ _ => True) (va_A [(o, .inr (11, [.ref aw, .ref bk, .ref ai, .ref ak, .ref sc, .ref rd, .ref fo, .ref tx, .int 0, .ref ar, .ref atr, .ref ao])), (rd, .inr (5, [.ref bd, .ref td, .int 0, .int 0, .int 0, .int 0, .int 0, .int 0, .int 0])), (bd, .inr (0, [.ref rd0, .ref rd1, .ref rd2, .ref rd3, .ref ead, .int 0])), (rd0, .inr (6, [.int 1, .int 5, .ref cad0, .int 0])), (rd1, .inr (6, [.int 4, .int 5, .ref cad1, .int 0])), (rd2, .inr (6, [.int 4, .int 8, .ref cad2, .int 0])), (rd3, .inr (6, [.int 4, .int 6, .ref cad3, .int 0])), (tx, .inl (ct, 150, .inl (fun _ => 0)))] sz)) 0 0 (va_A [(o, .inr (11, [.ref aw, .ref bk, .ref ai, .ref ak, .ref sc, .ref rd, .ref fo, .ref tx, .int 0, .ref ar, .ref atr, .ref ao])), (rd, .inr (5, [.ref bd, .ref td, .int 0, .int 0, .int 0, .int 0, .int 0, .int 0, .int 0])), (bd, .inr (0, [.ref rd0, .ref rd1, .ref rd2, .ref rd3, .ref ead, .int 0])), (rd0, .inr (6, [.int 1, .int 5, .ref cad0, .int 0])), (rd1, .inr (6, [.int 4, .int 5, .ref cad1, .int 0])), (rd2, .inr (6, [.int 4, .int 8, .ref cad2, .int 0])), (rd3, .inr (6, [.int 4, .int 6, .ref cad3, .int 0])), (tx, .inl (ct, 150, .inl (fun _ => 0)))] sz) := by
  refine Met.ofW (cc := cX11_read) (maxL := 1) (ret := (some .int)) (by decide) rfl ?_
  intro p e s m args below meth c s₁ B hml hv
  obtain ⟨rfl, hsz, hP, hK, hD0, hN⟩ := hv
  have hx := B.exec
  have hb := B.bytes
  have hr := B.returns
  have hts := atoms_spec (ws := wsX11_read) B.pre
  have hown : s.vm.findClass RX11 = some m.cls := findClass_of_methodNamed B.named
  have hlocks := B.notSynchronized
  subst hsz
  have hD := hD0.self (sz := s.heap.size)
  generalize hAe : va_A [(o, .inr (11, [.ref aw, .ref bk, .ref ai, .ref ak, .ref sc, .ref rd, .ref fo, .ref tx, .int 0, .ref ar, .ref atr, .ref ao])), (rd, .inr (5, [.ref bd, .ref td, .int 0, .int 0, .int 0, .int 0, .int 0, .int 0, .int 0])), (bd, .inr (0, [.ref rd0, .ref rd1, .ref rd2, .ref rd3, .ref ead, .int 0])), (rd0, .inr (6, [.int 1, .int 5, .ref cad0, .int 0])), (rd1, .inr (6, [.int 4, .int 5, .ref cad1, .int 0])), (rd2, .inr (6, [.int 4, .int 8, .ref cad2, .int 0])), (rd3, .inr (6, [.int 4, .int 6, .ref cad3, .int 0])), (tx, .inl (ct, 150, .inl (fun _ => 0)))] s.heap.size = A at hD ⊢
  have hA : ∀ q : Nat, s.heap.size ≤ q → A q := fun q h => by rw [← hAe]; exact Or.inr h
  have hS : va_S A s.heap s.heap [] := va_S.rf
  have hP : va_P (dC, dI) vwCl [(o, .inr (11, [.ref aw, .ref bk, .ref ai, .ref ak, .ref sc, .ref rd, .ref fo, .ref tx, .int 0, .ref ar, .ref atr, .ref ao])), (rd, .inr (5, [.ref bd, .ref td, .int 0, .int 0, .int 0, .int 0, .int 0, .int 0, .int 0])), (bd, .inr (0, [.ref rd0, .ref rd1, .ref rd2, .ref rd3, .ref ead, .int 0])), (rd0, .inr (6, [.int 1, .int 5, .ref cad0, .int 0])), (rd1, .inr (6, [.int 4, .int 5, .ref cad1, .int 0])), (rd2, .inr (6, [.int 4, .int 8, .ref cad2, .int 0])), (rd3, .inr (6, [.int 4, .int 6, .ref cad3, .int 0])), (tx, .inl (ct, 150, .inl (fun _ => 0)))] s.heap := hP
  have hl := lv_entry ([.ref o]) (n := 1) (Nat.le_of_ble_eq_true rfl)
  rw [lg_entry_eq]
  generalize (lg_sl ([.ref o]) ++ List.replicate (1 - (lg_sl ([.ref o])).length) Slot.unset).toArray = ls at hl ⊢
  have hl : lv_has ls 1 [(0, .ref o)] := hl
  refine lv_aload_n hx hb dX11_read_0 rfl (lv_at hl 0 rfl) ?_
  refine va_get (D := (dC, dI)) (ci := 11) (v := .ref rd) (C := RX11) (T := TX11) (N := 12) hx hb hts iw_k_x_read_X11 hown hK hP 0 rfl rfl 5 (by decide) (hts (.fieldLink RX11 56 "ThriceCounted" "reader" "LThriceCounted$Reader;") (by decide +kernel)) (fun _ h9 => h9) rfl dX11_read_1 ?_
  refine lv_aload_n hx hb dX11_read_4 rfl (lv_at hl 0 rfl) ?_
  refine va_get (D := (dC, dI)) (ci := 11) (v := .ref tx) (C := RX11) (T := TX11) (N := 12) hx hb hts iw_k_x_read_X11 hown hK hP 0 rfl rfl 7 (by decide) (hts (.fieldLink RX11 67 "ThriceCounted" "text" "[B") (by decide +kernel)) (fun _ h9 => h9) rfl dX11_read_5 ?_
  refine lv_aload_n hx hb dX11_read_8 rfl (lv_at hl 0 rfl) ?_
  refine va_get (D := (dC, dI)) (ci := 11) (v := .int 0) (C := RX11) (T := TX11) (N := 12) hx hb hts iw_k_x_read_X11 hown hK hP 0 rfl rfl 8 (by decide) (hts (.fieldLink RX11 71 "ThriceCounted" "typed" "I") (by decide +kernel)) (fun _ h9 => h9) rfl dX11_read_9 ?_
  have hPc := hP.sub (ws' := [(rd, .inr (5, [.ref bd, .ref td, .int 0, .int 0, .int 0, .int 0, .int 0, .int 0, .int 0])), (bd, .inr (0, [.ref rd0, .ref rd1, .ref rd2, .ref rd3, .ref ead, .int 0])), (rd0, .inr (6, [.int 1, .int 5, .ref cad0, .int 0])), (rd1, .inr (6, [.int 4, .int 5, .ref cad1, .int 0])), (rd2, .inr (6, [.int 4, .int 8, .ref cad2, .int 0])), (rd3, .inr (6, [.int 4, .int 6, .ref cad3, .int 0])), (tx, .inl (ct, 150, .inl (fun _ => 0)))]) [1, 2, 3, 4, 5, 6, 7] rfl
  have hDc := hD.sub (ws' := [(rd, .inr (5, [.ref bd, .ref td, .int 0, .int 0, .int 0, .int 0, .int 0, .int 0, .int 0])), (bd, .inr (0, [.ref rd0, .ref rd1, .ref rd2, .ref rd3, .ref ead, .int 0])), (rd0, .inr (6, [.int 1, .int 5, .ref cad0, .int 0])), (rd1, .inr (6, [.int 4, .int 5, .ref cad1, .int 0])), (rd2, .inr (6, [.int 4, .int 8, .ref cad2, .int 0])), (rd3, .inr (6, [.int 4, .int 6, .ref cad3, .int 0])), (tx, .inl (ct, 150, .inl (fun _ => 0)))]) [1, 2, 3, 4, 5, 6, 7] (by decide) rfl
  have hKc := hK.sub (tys' := [(ct, .byte)]) [0] rfl
  have hFc := va_free (wc := [(rd, .inr (5, [.ref bd, .ref td, .int 0, .int 0, .int 0, .int 0, .int 0, .int 0, .int 0])), (bd, .inr (0, [.ref rd0, .ref rd1, .ref rd2, .ref rd3, .ref ead, .int 0])), (rd0, .inr (6, [.int 1, .int 5, .ref cad0, .int 0])), (rd1, .inr (6, [.int 4, .int 5, .ref cad1, .int 0])), (rd2, .inr (6, [.int 4, .int 8, .ref cad2, .int 0])), (rd3, .inr (6, [.int 4, .int 6, .ref cad3, .int 0])), (tx, .inl (ct, 150, .inl (fun _ => 0)))]) hD hS hA [1, 2, 3, 4, 5, 6, 7] rfl
  refine va_calli (va_runV (As := [.ref tx, .int 0]) (rest := []) ⟨hx, hb, hml, hown, hts⟩ (k_parse0 l dC dI rd bd (.ref td) (.int 0) (.int 0) (.int 0) (.int 0) (.int 0) (.int 0) (.int 0) rd0 rd1 rd2 rd3 (.ref ead) (.int 0) (.int 1) (.int 5) (.ref cad0) (.int 0) (.int 4) (.int 5) (.ref cad1) (.int 0) (.int 4) (.int 8) (.ref cad2) (.int 0) (.int 4) (.int 6) (.ref cad3) (.int 0) tx ct (fun _ => 0) s.heap.size) (cwV 2 hts gX11_read_X5_parse rfl rfl rfl (by decide +kernel) ⟨Nat.le_of_ble_eq_true rfl, Nat.le_of_ble_eq_true rfl⟩) ⟨fun a U g mk q => by obtain ⟨q0, q1, qP, qK, qD, qN⟩ := q; exact ⟨q0, q1, qP, va_K.moved (u := U) (U := U.calling g mk a) (Vm.Alike.refl U.vm) qK, qD, tz_N.same (u := U) (U := U.calling g mk a) rfl qN⟩, va_recv hK hP (ci := 5) (q0 := 1) rfl rfl, fun U hU hW => ⟨rfl, by rw [hU], by rw [hU]; exact hPc, va_K.moved hW.alike hKc, hDc.weaken (fun _ _ _ _ => trivial), tz_N.warm hW hN⟩⟩ rfl rfl hl.1 rfl (lv_room (Nat.le_of_ble_eq_true rfl)) dX11_read_12 ⟨Nat.le_of_ble_eq_true rfl, Nat.le_of_ble_eq_true rfl⟩) hS (fun q _ h => hFc q h) hFc (fun r_1 u_ t H1 locs ht hvm hw_2 hB hz1 hk1 hS => ?_)
  obtain ⟨hP1, hK1, hD1⟩ := hB
  rw [ht] at hP1
  have hK1 := va_K.moved hvm.symm hK1
  obtain ⟨hP, hD⟩ := va_join (wr := [(o, .inr (11, [.ref aw, .ref bk, .ref ai, .ref ak, .ref sc, .ref rd, .ref fo, .ref tx, .int 0, .ref ar, .ref atr, .ref ao]))]) (w1 := [(rd, .inr (5, [.ref bd, .ref tx, .int 0, .int 0, .int 0, .int 0, .int 0, .int 0, .int 0]))]) hP hD [1, 2, 3, 4, 5, 6, 7] [0] rfl rfl (by decide) (by decide) hk1 hFc hP1 hD1
  generalize H1 = H at hP hS ⊢
  have hP : va_P (dC, dI) vwCl [(o, .inr (11, [.ref aw, .ref bk, .ref ai, .ref ak, .ref sc, .ref rd, .ref fo, .ref tx, .int 0, .ref ar, .ref atr, .ref ao])), (rd, .inr (5, [.ref bd, .ref tx, .int 0, .int 0, .int 0, .int 0, .int 0, .int 0, .int 0]))] H := hP
  have hD : va_D A [(o, .inr (11, [.ref aw, .ref bk, .ref ai, .ref ak, .ref sc, .ref rd, .ref fo, .ref tx, .int 0, .ref ar, .ref atr, .ref ao])), (rd, .inr (5, [.ref bd, .ref tx, .int 0, .int 0, .int 0, .int 0, .int 0, .int 0, .int 0]))] := hD
  obtain rfl : 0 = r_1 := hw_2.symm
  refine lv_if_ne (tgt := 29) hx hb dX11_read_15 (by decide) (fun c_3 => ?_) (fun c_3 => ?_)
  · exact absurd c_3 (by decide)
  · refine lv_bipush (v := (-10)) hx hb dX11_read_18 (by decide) ?_
    refine lv_aload_n hx hb dX11_read_20 rfl (lv_at hl 0 rfl) ?_
    refine va_get (D := (dC, dI)) (ci := 11) (v := .ref rd) (C := RX11) (T := TX11) (N := 12) hx hb hts iw_k_x_read_X11 hown hK hP 0 rfl rfl 5 (by decide) (hts (.fieldLink RX11 56 "ThriceCounted" "reader" "LThriceCounted$Reader;") (by decide +kernel)) (fun _ h9 => h9) rfl dX11_read_21 ?_
    have hPc_4 := hP.sub (ws' := [(rd, .inr (5, [.ref bd, .ref tx, .int 0, .int 0, .int 0, .int 0, .int 0, .int 0, .int 0]))]) [1] rfl
    have hKc_5 := hK.sub (tys' := []) [] rfl
    refine vp_callSi (va_Run.run (va_runV (As := []) (rest := [.int (-10)]) ⟨hx, hb, hml, hown, hts⟩ (k_fault l dC dI rd (.ref bd) (.ref tx) (.int 0) (.int 0) (.int 0) 0 (.int 0) (.int 0) (.int 0)) (cwV 0 hts gX11_read_X5_fault rfl rfl rfl (by decide +kernel) ⟨Nat.le_of_ble_eq_true rfl, Nat.le_of_ble_eq_true rfl⟩) ⟨fun a U g mk q => by obtain ⟨q0, qP, qK⟩ := q; exact ⟨q0, qP, va_K.moved (u := U) (U := U.calling g mk a) (Vm.Alike.refl U.vm) qK⟩, va_recv hK hP (ci := 5) (q0 := 1) rfl rfl, fun U hU hW => ⟨rfl, by rw [hU]; exact hPc_4, va_K.moved hW.alike hKc_5⟩⟩ rfl rfl hl.1 rfl (lv_room (Nat.le_of_ble_eq_true rfl)) dX11_read_24 ⟨Nat.le_of_ble_eq_true rfl, Nat.le_of_ble_eq_true rfl⟩)) (fun r_6 hw_7 => ?_)
    obtain rfl : 0 = r_6 := hw_7.symm
    refine lv_isub hx hb dX11_read_27 ?_
    refine tz_i (-10) (by decide) ?_
    exact W.iret (v := (-10)) hx hb hr (fun t ht hW => ⟨⟨(-10), (), rfl, rfl, trivial⟩, hS.F ht⟩) hS.2.2 dX11_read_28
set_option maxRecDepth 20000 in
theorem ggX11_of_X6_has : GoodIn wsX11_of wsX6_has := goodIn_r _ [7, 8, 50, 51, 52, 53] (by decide +kernel) (by decide +kernel)
set_option maxRecDepth 20000 in
theorem gX11_of_X6_has : GoodIn wsX11_of (wsV RX11 124 RX6 yX6_has wsX6_has) := goodIn_app (goodIn_of _ (by decide +kernel)) ggX11_of_X6_has
set_option maxRecDepth 20000 in
theorem ggX11_of_X11_refuse : GoodIn wsX11_of wsX11_refuse := goodIn_r _ [16, 17, 18, 19, 11, 20, 21, 32, 33, 34, 35, 36, 37, 38, 39, 40, 41, 42, 43] (by decide +kernel) (by decide +kernel)
set_option maxRecDepth 20000 in
theorem gX11_of_X11_refuse : GoodIn wsX11_of (wsV RX11 106 RX11 yX11_refuse wsX11_refuse) := goodIn_app (goodIn_of _ (by decide +kernel)) ggX11_of_X11_refuse
theorem dX11_of_0 : decode cX11_of 0 = .ok (.aload_n 0, 1) := by decide +kernel
theorem dX11_of_1 : decode cX11_of 1 = .ok (.getfield 34, 3) := by decide +kernel
theorem dX11_of_4 : decode cX11_of 4 = .ok (.getfield 138, 3) := by decide +kernel
theorem dX11_of_7 : decode cX11_of 7 = .ok (.iload_n 1, 1) := by decide +kernel
theorem dX11_of_8 : decode cX11_of 8 = .ok (.invokevirtual 124, 3) := by decide +kernel
theorem dX11_of_11 : decode cX11_of 11 = .ok (.ifCond .eq 12, 3) := by decide +kernel
theorem dX11_of_23 : decode cX11_of 23 = .ok (.aload_n 0, 1) := by decide +kernel
theorem dX11_of_24 : decode cX11_of 24 = .ok (.bipush (-2), 2) := by decide +kernel
theorem dX11_of_26 : decode cX11_of 26 = .ok (.invokevirtual 106, 3) := by decide +kernel
theorem dX11_of_29 : decode cX11_of 29 = .ok (.ireturn, 1) := by decide +kernel
set_option maxRecDepth 20000 in
theorem iw_k_x_of_X11 : ∀ w ∈ wsX110, w ∈ wsX11_of := by decide +kernel
set_option maxRecDepth 20000 in
theorem iw_k_x_of_X0 : ∀ w ∈ wsX00, w ∈ wsX11_of := by decide +kernel
set_option maxHeartbeats 4000000 in
set_option maxRecDepth 100000 in
theorem k_x_of (l : Launch) (dC : Nat → ClassId) (dI : Nat → Nat → Nat) (o : Nat) (aw : Nat) (bk : Nat) (ai : Nat) (ak : Nat) (sc : Nat) (rd : Nat) (fo : Nat) (tx : Nat) (ar : Nat) (atr : Nat) (ao : Nat) (rk0 : Nat) (rk1 : Nat) (rk2 : Nat) (rk3 : Nat) (eak : Nat) (cak2 : Nat) (cr : ClassId) (na : Int32) (nb : Int32) (sz : Nat) : Met l yX11_of wsX11_of ({ frames := 2, cells := 0, slots := 0, locals := 44 }) (va_Pc [.ref o, .int na, .int nb] (fun U => U.heap.size = sz ∧ va_P (dC, dI) vwCl [(o, .inr (11, [.ref aw, .ref bk, .ref ai, .ref ak, .ref sc, .ref rd, .ref fo, .ref tx, .int 0, .ref ar, .ref atr, .ref ao])), (bk, .inr (0, [.ref rk0, .ref rk1, .ref rk2, .ref rk3, .ref eak, .int 0])), (rk2, .inr (6, [.int 4, .int 8, .ref cak2, .int 0])), (ar, .inl (cr, 3, .inl (fun _ => 0)))] U.heap ∧ va_K (dC, dI) vwCl [(cr, .int)] U ∧ va_D (fun _ => True) [(o, .inr (11, [.ref aw, .ref bk, .ref ai, .ref ak, .ref sc, .ref rd, .ref fo, .ref tx, .int 0, .ref ar, .ref atr, .ref ao])), (bk, .inr (0, [.ref rk0, .ref rk1, .ref rk2, .ref rk3, .ref eak, .int 0])), (rk2, .inr (6, [.int 4, .int 8, .ref cak2, .int 0])), (ar, .inl (cr, 3, .inl (fun _ => 0)))])) (va_Qi (fun (r : Int32) (_ : Unit) => r = (-2)) (fun _ _ => True) (va_A [(o, .inr (11, [.ref aw, .ref bk, .ref ai, .ref ak, .ref sc, .ref rd, .ref fo, .ref tx, .int 0, .ref ar, .ref atr, .ref ao])), (bk, .inr (0, [.ref rk0, .ref rk1, .ref rk2, .ref rk3, .ref eak, .int 0])), (rk2, .inr (6, [.int 4, .int 8, .ref cak2, .int 0])), (ar, .inl (cr, 3, .inl (fun _ => 0)))] sz)) 0 0 (va_A [(o, .inr (11, [.ref aw, .ref bk, .ref ai, .ref ak, .ref sc, .ref rd, .ref fo, .ref tx, .int 0, .ref ar, .ref atr, .ref ao])), (bk, .inr (0, [.ref rk0, .ref rk1, .ref rk2, .ref rk3, .ref eak, .int 0])), (rk2, .inr (6, [.int 4, .int 8, .ref cak2, .int 0])), (ar, .inl (cr, 3, .inl (fun _ => 0)))] sz) := by
  refine Met.ofW (cc := cX11_of) (maxL := 3) (ret := (some .int)) (by decide) rfl ?_
  intro p e s m args below meth c s₁ B hml hv
  obtain ⟨rfl, hsz, hP, hK, hD0⟩ := hv
  have hx := B.exec
  have hb := B.bytes
  have hr := B.returns
  have hts := atoms_spec (ws := wsX11_of) B.pre
  have hown : s.vm.findClass RX11 = some m.cls := findClass_of_methodNamed B.named
  have hlocks := B.notSynchronized
  subst hsz
  have hD := hD0.self (sz := s.heap.size)
  generalize hAe : va_A [(o, .inr (11, [.ref aw, .ref bk, .ref ai, .ref ak, .ref sc, .ref rd, .ref fo, .ref tx, .int 0, .ref ar, .ref atr, .ref ao])), (bk, .inr (0, [.ref rk0, .ref rk1, .ref rk2, .ref rk3, .ref eak, .int 0])), (rk2, .inr (6, [.int 4, .int 8, .ref cak2, .int 0])), (ar, .inl (cr, 3, .inl (fun _ => 0)))] s.heap.size = A at hD ⊢
  have hA : ∀ q : Nat, s.heap.size ≤ q → A q := fun q h => by rw [← hAe]; exact Or.inr h
  have hS : va_S A s.heap s.heap [] := va_S.rf
  have hP : va_P (dC, dI) vwCl [(o, .inr (11, [.ref aw, .ref bk, .ref ai, .ref ak, .ref sc, .ref rd, .ref fo, .ref tx, .int 0, .ref ar, .ref atr, .ref ao])), (bk, .inr (0, [.ref rk0, .ref rk1, .ref rk2, .ref rk3, .ref eak, .int 0])), (rk2, .inr (6, [.int 4, .int 8, .ref cak2, .int 0])), (ar, .inl (cr, 3, .inl (fun _ => 0)))] s.heap := hP
  have hl := lv_entry ([.ref o, .int na, .int nb]) (n := 3) (Nat.le_of_ble_eq_true rfl)
  rw [lg_entry_eq]
  generalize (lg_sl ([.ref o, .int na, .int nb]) ++ List.replicate (3 - (lg_sl ([.ref o, .int na, .int nb])).length) Slot.unset).toArray = ls at hl ⊢
  have hl : lv_has ls 3 [(0, .ref o), (1, .int na), (2, .int nb)] := hl
  refine lv_aload_n hx hb dX11_of_0 rfl (lv_at hl 0 rfl) ?_
  refine va_get (D := (dC, dI)) (ci := 11) (v := .ref bk) (C := RX11) (T := TX11) (N := 12) hx hb hts iw_k_x_of_X11 hown hK hP 0 rfl rfl 1 (by decide) (hts (.fieldLink RX11 34 "ThriceCounted" "bank" "LThriceCounted$Bank;") (by decide +kernel)) (fun _ h9 => h9) rfl dX11_of_1 ?_
  refine va_get (D := (dC, dI)) (ci := 0) (v := .ref rk2) (C := RX0) (T := TX0) (N := 6) hx hb hts iw_k_x_of_X0 hown hK hP 1 rfl rfl 2 (by decide) (hts (.fieldLink RX11 138 "ThriceCounted$Bank" "counts" "LThriceCounted$Rows;") (by decide +kernel)) (fun _ h9 => h9) rfl dX11_of_4 ?_
  refine lv_iload_n hx hb dX11_of_7 rfl (lv_at hl 1 rfl) ?_
  have hPc_1 := hP.sub (ws' := [(rk2, .inr (6, [.int 4, .int 8, .ref cak2, .int 0]))]) [2] rfl
  have hKc_2 := hK.sub (tys' := []) [] rfl
  refine vp_callSi (va_Run.run (va_runV (As := [.int na]) (rest := []) ⟨hx, hb, hml, hown, hts⟩ (k_has0 l dC dI rk2 (.int 4) (.int 8) (.ref cak2) na) (cwV 1 hts gX11_of_X6_has rfl rfl rfl (by decide +kernel) ⟨Nat.le_of_ble_eq_true rfl, Nat.le_of_ble_eq_true rfl⟩) ⟨fun a U g mk q => by obtain ⟨q0, qP, qK⟩ := q; exact ⟨q0, qP, va_K.moved (u := U) (U := U.calling g mk a) (Vm.Alike.refl U.vm) qK⟩, va_recv hK hP (ci := 6) (q0 := 2) rfl rfl, fun U hU hW => ⟨rfl, by rw [hU]; exact hPc_1, va_K.moved hW.alike hKc_2⟩⟩ rfl rfl hl.1 rfl (lv_room (Nat.le_of_ble_eq_true rfl)) dX11_of_8 ⟨Nat.le_of_ble_eq_true rfl, Nat.le_of_ble_eq_true rfl⟩)) (fun r_3 hw_4 => ?_)
  obtain rfl : 0 = r_3 := hw_4.symm
  refine lv_if_eq (tgt := 23) hx hb dX11_of_11 (by decide) (fun c_5 => ?_) (fun c_5 => ?_)
  · refine lv_aload_n hx hb dX11_of_23 rfl (lv_at hl 0 rfl) ?_
    refine lv_bipush (v := (-2)) hx hb dX11_of_24 (by decide) ?_
    have hPc := hP.sub (ws' := [(o, .inr (11, [.ref aw, .ref bk, .ref ai, .ref ak, .ref sc, .ref rd, .ref fo, .ref tx, .int 0, .ref ar, .ref atr, .ref ao])), (ar, .inl (cr, 3, .inl (fun _ => 0)))]) [0, 3] rfl
    have hDc := hD.sub (ws' := [(o, .inr (11, [.ref aw, .ref bk, .ref ai, .ref ak, .ref sc, .ref rd, .ref fo, .ref tx, .int 0, .ref ar, .ref atr, .ref ao])), (ar, .inl (cr, 3, .inl (fun _ => 0)))]) [0, 3] (by decide) rfl
    have hKc := hK.sub (tys' := [(cr, .int)]) [0] rfl
    have hFc := va_free (wc := [(o, .inr (11, [.ref aw, .ref bk, .ref ai, .ref ak, .ref sc, .ref rd, .ref fo, .ref tx, .int 0, .ref ar, .ref atr, .ref ao])), (ar, .inl (cr, 3, .inl (fun _ => 0)))]) hD hS hA [0, 3] rfl
    refine va_calli (va_runV (As := [.int (-2)]) (rest := []) ⟨hx, hb, hml, hown, hts⟩ (k_refuse l dC dI o (.ref aw) (.ref bk) (.ref ai) (.ref ak) (.ref sc) (.ref rd) (.ref fo) (.ref tx) (.int 0) ar (.ref atr) (.ref ao) cr (fun _ => 0) (-2) s.heap.size) (cwV 1 hts gX11_of_X11_refuse rfl rfl rfl (by decide +kernel) ⟨Nat.le_of_ble_eq_true rfl, Nat.le_of_ble_eq_true rfl⟩) ⟨fun a U g mk q => by obtain ⟨q0, q1, qP, qK, qD⟩ := q; exact ⟨q0, q1, qP, va_K.moved (u := U) (U := U.calling g mk a) (Vm.Alike.refl U.vm) qK, qD⟩, va_recv hK hP (ci := 11) (q0 := 0) rfl rfl, fun U hU hW => ⟨rfl, by rw [hU], by rw [hU]; exact hPc, va_K.moved hW.alike hKc, hDc.weaken (fun _ _ _ _ => trivial)⟩⟩ rfl rfl hl.1 rfl (lv_room (Nat.le_of_ble_eq_true rfl)) dX11_of_26 ⟨Nat.le_of_ble_eq_true rfl, Nat.le_of_ble_eq_true rfl⟩) hS (fun q _ h => hFc q h) hFc (fun r_6 u_ t H1 locs ht hvm hw_7 hB hz1 hk1 hS => ?_)
    obtain ⟨hP, hD⟩ := va_join (wr := [(bk, .inr (0, [.ref rk0, .ref rk1, .ref rk2, .ref rk3, .ref eak, .int 0])), (rk2, .inr (6, [.int 4, .int 8, .ref cak2, .int 0]))]) (w1 := []) hP hD [0, 3] [1, 2] rfl rfl (by decide) (by decide) hk1 hFc tz_P0 tz_D0
    generalize H1 = H at hP hS ⊢
    have hP : va_P (dC, dI) vwCl [(bk, .inr (0, [.ref rk0, .ref rk1, .ref rk2, .ref rk3, .ref eak, .int 0])), (rk2, .inr (6, [.int 4, .int 8, .ref cak2, .int 0]))] H := hP
    have hD : va_D A [(bk, .inr (0, [.ref rk0, .ref rk1, .ref rk2, .ref rk3, .ref eak, .int 0])), (rk2, .inr (6, [.int 4, .int 8, .ref cak2, .int 0]))] := hD
    obtain rfl : (-2) = r_6 := hw_7.symm
    exact W.iret (v := (-2)) hx hb hr (fun t ht hW => ⟨⟨(-2), (), rfl, rfl, trivial⟩, hS.F ht⟩) hS.2.2 dX11_of_29
  · exact absurd c_5 (by decide)
set_option maxRecDepth 20000 in
theorem ggX11_about_X6_has : GoodIn wsX11_about wsX6_has := goodIn_r _ [7, 8, 57, 58, 59, 60] (by decide +kernel) (by decide +kernel)
set_option maxRecDepth 20000 in
theorem gX11_about_X6_has : GoodIn wsX11_about (wsV RX11 124 RX6 yX6_has wsX6_has) := goodIn_app (goodIn_of _ (by decide +kernel)) ggX11_about_X6_has
set_option maxRecDepth 20000 in
theorem ggX11_about_X11_refuseAs : GoodIn wsX11_about wsX11_refuseAs := goodIn_r _ [16, 17, 39, 40, 41, 42, 43, 44, 45, 46, 47, 48, 49, 50] (by decide +kernel) (by decide +kernel)
set_option maxRecDepth 20000 in
theorem gX11_about_X11_refuseAs : GoodIn wsX11_about (wsV RX11 172 RX11 yX11_refuseAs wsX11_refuseAs) := goodIn_app (goodIn_of _ (by decide +kernel)) ggX11_about_X11_refuseAs
theorem dX11_about_0 : decode cX11_about 0 = .ok (.aload_n 0, 1) := by decide +kernel
theorem dX11_about_1 : decode cX11_about 1 = .ok (.getfield 34, 3) := by decide +kernel
theorem dX11_about_4 : decode cX11_about 4 = .ok (.getfield 85, 3) := by decide +kernel
theorem dX11_about_7 : decode cX11_about 7 = .ok (.iload_n 1, 1) := by decide +kernel
theorem dX11_about_8 : decode cX11_about 8 = .ok (.invokevirtual 124, 3) := by decide +kernel
theorem dX11_about_11 : decode cX11_about 11 = .ok (.ifCond .eq 12, 3) := by decide +kernel
theorem dX11_about_23 : decode cX11_about 23 = .ok (.aload_n 0, 1) := by decide +kernel
theorem dX11_about_24 : decode cX11_about 24 = .ok (.bipush (-2), 2) := by decide +kernel
theorem dX11_about_26 : decode cX11_about 26 = .ok (.bipush (-10), 2) := by decide +kernel
theorem dX11_about_28 : decode cX11_about 28 = .ok (.invokevirtual 172, 3) := by decide +kernel
theorem dX11_about_31 : decode cX11_about 31 = .ok (.ireturn, 1) := by decide +kernel
set_option maxRecDepth 20000 in
theorem iw_k_x_about_X11 : ∀ w ∈ wsX110, w ∈ wsX11_about := by decide +kernel
set_option maxRecDepth 20000 in
theorem iw_k_x_about_X0 : ∀ w ∈ wsX00, w ∈ wsX11_about := by decide +kernel
set_option maxHeartbeats 4000000 in
set_option maxRecDepth 100000 in
theorem k_x_about (l : Launch) (dC : Nat → ClassId) (dI : Nat → Nat → Nat) (o : Nat) (aw : Nat) (bk : Nat) (ai : Nat) (ak : Nat) (sc : Nat) (rd : Nat) (fo : Nat) (tx : Nat) (ar : Nat) (atr : Nat) (ao : Nat) (rk0 : Nat) (rk1 : Nat) (rk2 : Nat) (rk3 : Nat) (eak : Nat) (cak1 : Nat) (cr : ClassId) (na : Int32) (nb : Int32) (sz : Nat) : Met l yX11_about wsX11_about ({ frames := 1, cells := 0, slots := 0, locals := 23 }) (va_Pc [.ref o, .int na, .int nb] (fun U => U.heap.size = sz ∧ va_P (dC, dI) vwCl [(o, .inr (11, [.ref aw, .ref bk, .ref ai, .ref ak, .ref sc, .ref rd, .ref fo, .ref tx, .int 0, .ref ar, .ref atr, .ref ao])), (bk, .inr (0, [.ref rk0, .ref rk1, .ref rk2, .ref rk3, .ref eak, .int 0])), (rk1, .inr (6, [.int 4, .int 5, .ref cak1, .int 0])), (ar, .inl (cr, 3, .inl (fun _ => 0)))] U.heap ∧ va_K (dC, dI) vwCl [(cr, .int)] U ∧ va_D (fun _ => True) [(o, .inr (11, [.ref aw, .ref bk, .ref ai, .ref ak, .ref sc, .ref rd, .ref fo, .ref tx, .int 0, .ref ar, .ref atr, .ref ao])), (bk, .inr (0, [.ref rk0, .ref rk1, .ref rk2, .ref rk3, .ref eak, .int 0])), (rk1, .inr (6, [.int 4, .int 5, .ref cak1, .int 0])), (ar, .inl (cr, 3, .inl (fun _ => 0)))])) (va_Qi (fun (r : Int32) (_ : Unit) => r = (-10)) (fun _ _ => True) (va_A [(o, .inr (11, [.ref aw, .ref bk, .ref ai, .ref ak, .ref sc, .ref rd, .ref fo, .ref tx, .int 0, .ref ar, .ref atr, .ref ao])), (bk, .inr (0, [.ref rk0, .ref rk1, .ref rk2, .ref rk3, .ref eak, .int 0])), (rk1, .inr (6, [.int 4, .int 5, .ref cak1, .int 0])), (ar, .inl (cr, 3, .inl (fun _ => 0)))] sz)) 0 0 (va_A [(o, .inr (11, [.ref aw, .ref bk, .ref ai, .ref ak, .ref sc, .ref rd, .ref fo, .ref tx, .int 0, .ref ar, .ref atr, .ref ao])), (bk, .inr (0, [.ref rk0, .ref rk1, .ref rk2, .ref rk3, .ref eak, .int 0])), (rk1, .inr (6, [.int 4, .int 5, .ref cak1, .int 0])), (ar, .inl (cr, 3, .inl (fun _ => 0)))] sz) := by
  refine Met.ofW (cc := cX11_about) (maxL := 3) (ret := (some .int)) (by decide) rfl ?_
  intro p e s m args below meth c s₁ B hml hv
  obtain ⟨rfl, hsz, hP, hK, hD0⟩ := hv
  have hx := B.exec
  have hb := B.bytes
  have hr := B.returns
  have hts := atoms_spec (ws := wsX11_about) B.pre
  have hown : s.vm.findClass RX11 = some m.cls := findClass_of_methodNamed B.named
  have hlocks := B.notSynchronized
  subst hsz
  have hD := hD0.self (sz := s.heap.size)
  generalize hAe : va_A [(o, .inr (11, [.ref aw, .ref bk, .ref ai, .ref ak, .ref sc, .ref rd, .ref fo, .ref tx, .int 0, .ref ar, .ref atr, .ref ao])), (bk, .inr (0, [.ref rk0, .ref rk1, .ref rk2, .ref rk3, .ref eak, .int 0])), (rk1, .inr (6, [.int 4, .int 5, .ref cak1, .int 0])), (ar, .inl (cr, 3, .inl (fun _ => 0)))] s.heap.size = A at hD ⊢
  have hA : ∀ q : Nat, s.heap.size ≤ q → A q := fun q h => by rw [← hAe]; exact Or.inr h
  have hS : va_S A s.heap s.heap [] := va_S.rf
  have hP : va_P (dC, dI) vwCl [(o, .inr (11, [.ref aw, .ref bk, .ref ai, .ref ak, .ref sc, .ref rd, .ref fo, .ref tx, .int 0, .ref ar, .ref atr, .ref ao])), (bk, .inr (0, [.ref rk0, .ref rk1, .ref rk2, .ref rk3, .ref eak, .int 0])), (rk1, .inr (6, [.int 4, .int 5, .ref cak1, .int 0])), (ar, .inl (cr, 3, .inl (fun _ => 0)))] s.heap := hP
  have hl := lv_entry ([.ref o, .int na, .int nb]) (n := 3) (Nat.le_of_ble_eq_true rfl)
  rw [lg_entry_eq]
  generalize (lg_sl ([.ref o, .int na, .int nb]) ++ List.replicate (3 - (lg_sl ([.ref o, .int na, .int nb])).length) Slot.unset).toArray = ls at hl ⊢
  have hl : lv_has ls 3 [(0, .ref o), (1, .int na), (2, .int nb)] := hl
  refine lv_aload_n hx hb dX11_about_0 rfl (lv_at hl 0 rfl) ?_
  refine va_get (D := (dC, dI)) (ci := 11) (v := .ref bk) (C := RX11) (T := TX11) (N := 12) hx hb hts iw_k_x_about_X11 hown hK hP 0 rfl rfl 1 (by decide) (hts (.fieldLink RX11 34 "ThriceCounted" "bank" "LThriceCounted$Bank;") (by decide +kernel)) (fun _ h9 => h9) rfl dX11_about_1 ?_
  refine va_get (D := (dC, dI)) (ci := 0) (v := .ref rk1) (C := RX0) (T := TX0) (N := 6) hx hb hts iw_k_x_about_X0 hown hK hP 1 rfl rfl 1 (by decide) (hts (.fieldLink RX11 85 "ThriceCounted$Bank" "bundles" "LThriceCounted$Rows;") (by decide +kernel)) (fun _ h9 => h9) rfl dX11_about_4 ?_
  refine lv_iload_n hx hb dX11_about_7 rfl (lv_at hl 1 rfl) ?_
  have hPc_1 := hP.sub (ws' := [(rk1, .inr (6, [.int 4, .int 5, .ref cak1, .int 0]))]) [2] rfl
  have hKc_2 := hK.sub (tys' := []) [] rfl
  refine vp_callSi (va_Run.run (va_runV (As := [.int na]) (rest := []) ⟨hx, hb, hml, hown, hts⟩ (k_has0 l dC dI rk1 (.int 4) (.int 5) (.ref cak1) na) (cwV 1 hts gX11_about_X6_has rfl rfl rfl (by decide +kernel) ⟨Nat.le_of_ble_eq_true rfl, Nat.le_of_ble_eq_true rfl⟩) ⟨fun a U g mk q => by obtain ⟨q0, qP, qK⟩ := q; exact ⟨q0, qP, va_K.moved (u := U) (U := U.calling g mk a) (Vm.Alike.refl U.vm) qK⟩, va_recv hK hP (ci := 6) (q0 := 2) rfl rfl, fun U hU hW => ⟨rfl, by rw [hU]; exact hPc_1, va_K.moved hW.alike hKc_2⟩⟩ rfl rfl hl.1 rfl (lv_room (Nat.le_of_ble_eq_true rfl)) dX11_about_8 ⟨Nat.le_of_ble_eq_true rfl, Nat.le_of_ble_eq_true rfl⟩)) (fun r_3 hw_4 => ?_)
  obtain rfl : 0 = r_3 := hw_4.symm
  refine lv_if_eq (tgt := 23) hx hb dX11_about_11 (by decide) (fun c_5 => ?_) (fun c_5 => ?_)
  · refine lv_aload_n hx hb dX11_about_23 rfl (lv_at hl 0 rfl) ?_
    refine lv_bipush (v := (-2)) hx hb dX11_about_24 (by decide) ?_
    refine lv_bipush (v := (-10)) hx hb dX11_about_26 (by decide) ?_
    have hPc := hP.sub (ws' := [(o, .inr (11, [.ref aw, .ref bk, .ref ai, .ref ak, .ref sc, .ref rd, .ref fo, .ref tx, .int 0, .ref ar, .ref atr, .ref ao])), (ar, .inl (cr, 3, .inl (fun _ => 0)))]) [0, 3] rfl
    have hDc := hD.sub (ws' := [(o, .inr (11, [.ref aw, .ref bk, .ref ai, .ref ak, .ref sc, .ref rd, .ref fo, .ref tx, .int 0, .ref ar, .ref atr, .ref ao])), (ar, .inl (cr, 3, .inl (fun _ => 0)))]) [0, 3] (by decide) rfl
    have hKc := hK.sub (tys' := [(cr, .int)]) [0] rfl
    have hFc := va_free (wc := [(o, .inr (11, [.ref aw, .ref bk, .ref ai, .ref ak, .ref sc, .ref rd, .ref fo, .ref tx, .int 0, .ref ar, .ref atr, .ref ao])), (ar, .inl (cr, 3, .inl (fun _ => 0)))]) hD hS hA [0, 3] rfl
    refine va_calli (va_runV (As := [.int (-2), .int (-10)]) (rest := []) ⟨hx, hb, hml, hown, hts⟩ (k_refuseAs l dC dI o (.ref aw) (.ref bk) (.ref ai) (.ref ak) (.ref sc) (.ref rd) (.ref fo) (.ref tx) (.int 0) ar (.ref atr) (.ref ao) cr (fun _ => 0) (-2) (-10) s.heap.size) (cwV 2 hts gX11_about_X11_refuseAs rfl rfl rfl (by decide +kernel) ⟨Nat.le_of_ble_eq_true rfl, Nat.le_of_ble_eq_true rfl⟩) ⟨fun a U g mk q => by obtain ⟨q0, q1, qP, qK, qD⟩ := q; exact ⟨q0, q1, qP, va_K.moved (u := U) (U := U.calling g mk a) (Vm.Alike.refl U.vm) qK, qD⟩, va_recv hK hP (ci := 11) (q0 := 0) rfl rfl, fun U hU hW => ⟨rfl, by rw [hU], by rw [hU]; exact hPc, va_K.moved hW.alike hKc, hDc.weaken (fun _ _ _ _ => trivial)⟩⟩ rfl rfl hl.1 rfl (lv_room (Nat.le_of_ble_eq_true rfl)) dX11_about_28 ⟨Nat.le_of_ble_eq_true rfl, Nat.le_of_ble_eq_true rfl⟩) hS (fun q _ h => hFc q h) hFc (fun r_6 u_ t H1 locs ht hvm hw_7 hB hz1 hk1 hS => ?_)
    obtain ⟨hP, hD⟩ := va_join (wr := [(bk, .inr (0, [.ref rk0, .ref rk1, .ref rk2, .ref rk3, .ref eak, .int 0])), (rk1, .inr (6, [.int 4, .int 5, .ref cak1, .int 0]))]) (w1 := []) hP hD [0, 3] [1, 2] rfl rfl (by decide) (by decide) hk1 hFc tz_P0 tz_D0
    generalize H1 = H at hP hS ⊢
    have hP : va_P (dC, dI) vwCl [(bk, .inr (0, [.ref rk0, .ref rk1, .ref rk2, .ref rk3, .ref eak, .int 0])), (rk1, .inr (6, [.int 4, .int 5, .ref cak1, .int 0]))] H := hP
    have hD : va_D A [(bk, .inr (0, [.ref rk0, .ref rk1, .ref rk2, .ref rk3, .ref eak, .int 0])), (rk1, .inr (6, [.int 4, .int 5, .ref cak1, .int 0]))] := hD
    obtain rfl : (-10) = r_6 := hw_7.symm
    exact W.iret (v := (-10)) hx hb hr (fun t ht hW => ⟨⟨(-10), (), rfl, rfl, trivial⟩, hS.F ht⟩) hS.2.2 dX11_about_31
  · exact absurd c_5 (by decide)
set_option maxRecDepth 20000 in
theorem ggX11_likely_X6_has : GoodIn wsX11_likely wsX6_has := goodIn_r _ [10, 11, 130, 131, 132, 133] (by decide +kernel) (by decide +kernel)
set_option maxRecDepth 20000 in
theorem gX11_likely_X6_has : GoodIn wsX11_likely (wsV RX11 124 RX6 yX6_has wsX6_has) := goodIn_app (goodIn_of _ (by decide +kernel)) ggX11_likely_X6_has
set_option maxRecDepth 20000 in
theorem ggX11_likely_X11_refuse : GoodIn wsX11_likely wsX11_refuse := goodIn_r _ [19, 20, 21, 22, 14, 23, 24, 112, 113, 114, 115, 116, 117, 118, 119, 120, 121, 122, 123] (by decide +kernel) (by decide +kernel)
set_option maxRecDepth 20000 in
theorem gX11_likely_X11_refuse : GoodIn wsX11_likely (wsV RX11 106 RX11 yX11_refuse wsX11_refuse) := goodIn_app (goodIn_of _ (by decide +kernel)) ggX11_likely_X11_refuse
theorem dX11_likely_0 : decode cX11_likely 0 = .ok (.aload_n 0, 1) := by decide +kernel
theorem dX11_likely_1 : decode cX11_likely 1 = .ok (.getfield 34, 3) := by decide +kernel
theorem dX11_likely_4 : decode cX11_likely 4 = .ok (.getfield 85, 3) := by decide +kernel
theorem dX11_likely_7 : decode cX11_likely 7 = .ok (.iload_n 1, 1) := by decide +kernel
theorem dX11_likely_8 : decode cX11_likely 8 = .ok (.invokevirtual 124, 3) := by decide +kernel
theorem dX11_likely_11 : decode cX11_likely 11 = .ok (.ifCond .eq 14, 3) := by decide +kernel
theorem dX11_likely_25 : decode cX11_likely 25 = .ok (.aload_n 0, 1) := by decide +kernel
theorem dX11_likely_26 : decode cX11_likely 26 = .ok (.bipush (-2), 2) := by decide +kernel
theorem dX11_likely_28 : decode cX11_likely 28 = .ok (.invokevirtual 106, 3) := by decide +kernel
theorem dX11_likely_31 : decode cX11_likely 31 = .ok (.ireturn, 1) := by decide +kernel
set_option maxRecDepth 20000 in
theorem iw_k_x_likely_X11 : ∀ w ∈ wsX110, w ∈ wsX11_likely := by decide +kernel
set_option maxRecDepth 20000 in
theorem iw_k_x_likely_X0 : ∀ w ∈ wsX00, w ∈ wsX11_likely := by decide +kernel
set_option maxHeartbeats 4000000 in
set_option maxRecDepth 100000 in
theorem k_x_likely (l : Launch) (dC : Nat → ClassId) (dI : Nat → Nat → Nat) (o : Nat) (aw : Nat) (bk : Nat) (ai : Nat) (ak : Nat) (sc : Nat) (rd : Nat) (fo : Nat) (tx : Nat) (ar : Nat) (atr : Nat) (ao : Nat) (rk0 : Nat) (rk1 : Nat) (rk2 : Nat) (rk3 : Nat) (eak : Nat) (cak1 : Nat) (cr : ClassId) (na : Int32) (nb : Int32) (sz : Nat) : Met l yX11_likely wsX11_likely ({ frames := 2, cells := 0, slots := 0, locals := 44 }) (va_Pc [.ref o, .int na, .int nb] (fun U => U.heap.size = sz ∧ va_P (dC, dI) vwCl [(o, .inr (11, [.ref aw, .ref bk, .ref ai, .ref ak, .ref sc, .ref rd, .ref fo, .ref tx, .int 0, .ref ar, .ref atr, .ref ao])), (bk, .inr (0, [.ref rk0, .ref rk1, .ref rk2, .ref rk3, .ref eak, .int 0])), (rk1, .inr (6, [.int 4, .int 5, .ref cak1, .int 0])), (ar, .inl (cr, 3, .inl (fun _ => 0)))] U.heap ∧ va_K (dC, dI) vwCl [(cr, .int)] U ∧ va_D (fun _ => True) [(o, .inr (11, [.ref aw, .ref bk, .ref ai, .ref ak, .ref sc, .ref rd, .ref fo, .ref tx, .int 0, .ref ar, .ref atr, .ref ao])), (bk, .inr (0, [.ref rk0, .ref rk1, .ref rk2, .ref rk3, .ref eak, .int 0])), (rk1, .inr (6, [.int 4, .int 5, .ref cak1, .int 0])), (ar, .inl (cr, 3, .inl (fun _ => 0)))])) (va_Qi (fun (r : Int32) (_ : Unit) => r = (-2)) (fun _ _ => True) (va_A [(o, .inr (11, [.ref aw, .ref bk, .ref ai, .ref ak, .ref sc, .ref rd, .ref fo, .ref tx, .int 0, .ref ar, .ref atr, .ref ao])), (bk, .inr (0, [.ref rk0, .ref rk1, .ref rk2, .ref rk3, .ref eak, .int 0])), (rk1, .inr (6, [.int 4, .int 5, .ref cak1, .int 0])), (ar, .inl (cr, 3, .inl (fun _ => 0)))] sz)) 0 0 (va_A [(o, .inr (11, [.ref aw, .ref bk, .ref ai, .ref ak, .ref sc, .ref rd, .ref fo, .ref tx, .int 0, .ref ar, .ref atr, .ref ao])), (bk, .inr (0, [.ref rk0, .ref rk1, .ref rk2, .ref rk3, .ref eak, .int 0])), (rk1, .inr (6, [.int 4, .int 5, .ref cak1, .int 0])), (ar, .inl (cr, 3, .inl (fun _ => 0)))] sz) := by
  refine Met.ofW (cc := cX11_likely) (maxL := 3) (ret := (some .int)) (by decide) rfl ?_
  intro p e s m args below meth c s₁ B hml hv
  obtain ⟨rfl, hsz, hP, hK, hD0⟩ := hv
  have hx := B.exec
  have hb := B.bytes
  have hr := B.returns
  have hts := atoms_spec (ws := wsX11_likely) B.pre
  have hown : s.vm.findClass RX11 = some m.cls := findClass_of_methodNamed B.named
  have hlocks := B.notSynchronized
  subst hsz
  have hD := hD0.self (sz := s.heap.size)
  generalize hAe : va_A [(o, .inr (11, [.ref aw, .ref bk, .ref ai, .ref ak, .ref sc, .ref rd, .ref fo, .ref tx, .int 0, .ref ar, .ref atr, .ref ao])), (bk, .inr (0, [.ref rk0, .ref rk1, .ref rk2, .ref rk3, .ref eak, .int 0])), (rk1, .inr (6, [.int 4, .int 5, .ref cak1, .int 0])), (ar, .inl (cr, 3, .inl (fun _ => 0)))] s.heap.size = A at hD ⊢
  have hA : ∀ q : Nat, s.heap.size ≤ q → A q := fun q h => by rw [← hAe]; exact Or.inr h
  have hS : va_S A s.heap s.heap [] := va_S.rf
  have hP : va_P (dC, dI) vwCl [(o, .inr (11, [.ref aw, .ref bk, .ref ai, .ref ak, .ref sc, .ref rd, .ref fo, .ref tx, .int 0, .ref ar, .ref atr, .ref ao])), (bk, .inr (0, [.ref rk0, .ref rk1, .ref rk2, .ref rk3, .ref eak, .int 0])), (rk1, .inr (6, [.int 4, .int 5, .ref cak1, .int 0])), (ar, .inl (cr, 3, .inl (fun _ => 0)))] s.heap := hP
  have hl := lv_entry ([.ref o, .int na, .int nb]) (n := 3) (Nat.le_of_ble_eq_true rfl)
  rw [lg_entry_eq]
  generalize (lg_sl ([.ref o, .int na, .int nb]) ++ List.replicate (3 - (lg_sl ([.ref o, .int na, .int nb])).length) Slot.unset).toArray = ls at hl ⊢
  have hl : lv_has ls 3 [(0, .ref o), (1, .int na), (2, .int nb)] := hl
  refine lv_aload_n hx hb dX11_likely_0 rfl (lv_at hl 0 rfl) ?_
  refine va_get (D := (dC, dI)) (ci := 11) (v := .ref bk) (C := RX11) (T := TX11) (N := 12) hx hb hts iw_k_x_likely_X11 hown hK hP 0 rfl rfl 1 (by decide) (hts (.fieldLink RX11 34 "ThriceCounted" "bank" "LThriceCounted$Bank;") (by decide +kernel)) (fun _ h9 => h9) rfl dX11_likely_1 ?_
  refine va_get (D := (dC, dI)) (ci := 0) (v := .ref rk1) (C := RX0) (T := TX0) (N := 6) hx hb hts iw_k_x_likely_X0 hown hK hP 1 rfl rfl 1 (by decide) (hts (.fieldLink RX11 85 "ThriceCounted$Bank" "bundles" "LThriceCounted$Rows;") (by decide +kernel)) (fun _ h9 => h9) rfl dX11_likely_4 ?_
  refine lv_iload_n hx hb dX11_likely_7 rfl (lv_at hl 1 rfl) ?_
  have hPc_1 := hP.sub (ws' := [(rk1, .inr (6, [.int 4, .int 5, .ref cak1, .int 0]))]) [2] rfl
  have hKc_2 := hK.sub (tys' := []) [] rfl
  refine vp_callSi (va_Run.run (va_runV (As := [.int na]) (rest := []) ⟨hx, hb, hml, hown, hts⟩ (k_has0 l dC dI rk1 (.int 4) (.int 5) (.ref cak1) na) (cwV 1 hts gX11_likely_X6_has rfl rfl rfl (by decide +kernel) ⟨Nat.le_of_ble_eq_true rfl, Nat.le_of_ble_eq_true rfl⟩) ⟨fun a U g mk q => by obtain ⟨q0, qP, qK⟩ := q; exact ⟨q0, qP, va_K.moved (u := U) (U := U.calling g mk a) (Vm.Alike.refl U.vm) qK⟩, va_recv hK hP (ci := 6) (q0 := 2) rfl rfl, fun U hU hW => ⟨rfl, by rw [hU]; exact hPc_1, va_K.moved hW.alike hKc_2⟩⟩ rfl rfl hl.1 rfl (lv_room (Nat.le_of_ble_eq_true rfl)) dX11_likely_8 ⟨Nat.le_of_ble_eq_true rfl, Nat.le_of_ble_eq_true rfl⟩)) (fun r_3 hw_4 => ?_)
  obtain rfl : 0 = r_3 := hw_4.symm
  refine lv_if_eq (tgt := 25) hx hb dX11_likely_11 (by decide) (fun c_5 => ?_) (fun c_5 => ?_)
  · refine lv_aload_n hx hb dX11_likely_25 rfl (lv_at hl 0 rfl) ?_
    refine lv_bipush (v := (-2)) hx hb dX11_likely_26 (by decide) ?_
    have hPc := hP.sub (ws' := [(o, .inr (11, [.ref aw, .ref bk, .ref ai, .ref ak, .ref sc, .ref rd, .ref fo, .ref tx, .int 0, .ref ar, .ref atr, .ref ao])), (ar, .inl (cr, 3, .inl (fun _ => 0)))]) [0, 3] rfl
    have hDc := hD.sub (ws' := [(o, .inr (11, [.ref aw, .ref bk, .ref ai, .ref ak, .ref sc, .ref rd, .ref fo, .ref tx, .int 0, .ref ar, .ref atr, .ref ao])), (ar, .inl (cr, 3, .inl (fun _ => 0)))]) [0, 3] (by decide) rfl
    have hKc := hK.sub (tys' := [(cr, .int)]) [0] rfl
    have hFc := va_free (wc := [(o, .inr (11, [.ref aw, .ref bk, .ref ai, .ref ak, .ref sc, .ref rd, .ref fo, .ref tx, .int 0, .ref ar, .ref atr, .ref ao])), (ar, .inl (cr, 3, .inl (fun _ => 0)))]) hD hS hA [0, 3] rfl
    refine va_calli (va_runV (As := [.int (-2)]) (rest := []) ⟨hx, hb, hml, hown, hts⟩ (k_refuse l dC dI o (.ref aw) (.ref bk) (.ref ai) (.ref ak) (.ref sc) (.ref rd) (.ref fo) (.ref tx) (.int 0) ar (.ref atr) (.ref ao) cr (fun _ => 0) (-2) s.heap.size) (cwV 1 hts gX11_likely_X11_refuse rfl rfl rfl (by decide +kernel) ⟨Nat.le_of_ble_eq_true rfl, Nat.le_of_ble_eq_true rfl⟩) ⟨fun a U g mk q => by obtain ⟨q0, q1, qP, qK, qD⟩ := q; exact ⟨q0, q1, qP, va_K.moved (u := U) (U := U.calling g mk a) (Vm.Alike.refl U.vm) qK, qD⟩, va_recv hK hP (ci := 11) (q0 := 0) rfl rfl, fun U hU hW => ⟨rfl, by rw [hU], by rw [hU]; exact hPc, va_K.moved hW.alike hKc, hDc.weaken (fun _ _ _ _ => trivial)⟩⟩ rfl rfl hl.1 rfl (lv_room (Nat.le_of_ble_eq_true rfl)) dX11_likely_28 ⟨Nat.le_of_ble_eq_true rfl, Nat.le_of_ble_eq_true rfl⟩) hS (fun q _ h => hFc q h) hFc (fun r_6 u_ t H1 locs ht hvm hw_7 hB hz1 hk1 hS => ?_)
    obtain ⟨hP, hD⟩ := va_join (wr := [(bk, .inr (0, [.ref rk0, .ref rk1, .ref rk2, .ref rk3, .ref eak, .int 0])), (rk1, .inr (6, [.int 4, .int 5, .ref cak1, .int 0]))]) (w1 := []) hP hD [0, 3] [1, 2] rfl rfl (by decide) (by decide) hk1 hFc tz_P0 tz_D0
    generalize H1 = H at hP hS ⊢
    have hP : va_P (dC, dI) vwCl [(bk, .inr (0, [.ref rk0, .ref rk1, .ref rk2, .ref rk3, .ref eak, .int 0])), (rk1, .inr (6, [.int 4, .int 5, .ref cak1, .int 0]))] H := hP
    have hD : va_D A [(bk, .inr (0, [.ref rk0, .ref rk1, .ref rk2, .ref rk3, .ref eak, .int 0])), (rk1, .inr (6, [.int 4, .int 5, .ref cak1, .int 0]))] := hD
    obtain rfl : (-2) = r_6 := hw_7.symm
    exact W.iret (v := (-2)) hx hb hr (fun t ht hW => ⟨⟨(-2), (), rfl, rfl, trivial⟩, hS.F ht⟩) hS.2.2 dX11_likely_31
  · exact absurd c_5 (by decide)
set_option maxRecDepth 20000 in
theorem ggX11_truly_X6_has : GoodIn wsX11_truly wsX6_has := goodIn_r _ [9, 10, 119, 120, 121, 122] (by decide +kernel) (by decide +kernel)
set_option maxRecDepth 20000 in
theorem gX11_truly_X6_has : GoodIn wsX11_truly (wsV RX11 124 RX6 yX6_has wsX6_has) := goodIn_app (goodIn_of _ (by decide +kernel)) ggX11_truly_X6_has
set_option maxRecDepth 20000 in
theorem ggX11_truly_X11_refuse : GoodIn wsX11_truly wsX11_refuse := goodIn_r _ [18, 19, 20, 21, 13, 22, 23, 101, 102, 103, 104, 105, 106, 107, 108, 109, 110, 111, 112] (by decide +kernel) (by decide +kernel)
set_option maxRecDepth 20000 in
theorem gX11_truly_X11_refuse : GoodIn wsX11_truly (wsV RX11 106 RX11 yX11_refuse wsX11_refuse) := goodIn_app (goodIn_of _ (by decide +kernel)) ggX11_truly_X11_refuse
theorem dX11_truly_0 : decode cX11_truly 0 = .ok (.aload_n 0, 1) := by decide +kernel
theorem dX11_truly_1 : decode cX11_truly 1 = .ok (.getfield 34, 3) := by decide +kernel
theorem dX11_truly_4 : decode cX11_truly 4 = .ok (.getfield 85, 3) := by decide +kernel
theorem dX11_truly_7 : decode cX11_truly 7 = .ok (.iload_n 1, 1) := by decide +kernel
theorem dX11_truly_8 : decode cX11_truly 8 = .ok (.invokevirtual 124, 3) := by decide +kernel
theorem dX11_truly_11 : decode cX11_truly 11 = .ok (.ifCond .eq 12, 3) := by decide +kernel
theorem dX11_truly_23 : decode cX11_truly 23 = .ok (.aload_n 0, 1) := by decide +kernel
theorem dX11_truly_24 : decode cX11_truly 24 = .ok (.bipush (-2), 2) := by decide +kernel
theorem dX11_truly_26 : decode cX11_truly 26 = .ok (.invokevirtual 106, 3) := by decide +kernel
theorem dX11_truly_29 : decode cX11_truly 29 = .ok (.ireturn, 1) := by decide +kernel
set_option maxRecDepth 20000 in
theorem iw_k_x_truly_X11 : ∀ w ∈ wsX110, w ∈ wsX11_truly := by decide +kernel
set_option maxRecDepth 20000 in
theorem iw_k_x_truly_X0 : ∀ w ∈ wsX00, w ∈ wsX11_truly := by decide +kernel
set_option maxHeartbeats 4000000 in
set_option maxRecDepth 100000 in
theorem k_x_truly (l : Launch) (dC : Nat → ClassId) (dI : Nat → Nat → Nat) (o : Nat) (aw : Nat) (bk : Nat) (ai : Nat) (ak : Nat) (sc : Nat) (rd : Nat) (fo : Nat) (tx : Nat) (ar : Nat) (atr : Nat) (ao : Nat) (rk0 : Nat) (rk1 : Nat) (rk2 : Nat) (rk3 : Nat) (eak : Nat) (cak1 : Nat) (cr : ClassId) (na : Int32) (nb : Int32) (sz : Nat) : Met l yX11_truly wsX11_truly ({ frames := 2, cells := 0, slots := 0, locals := 44 }) (va_Pc [.ref o, .int na, .int nb] (fun U => U.heap.size = sz ∧ va_P (dC, dI) vwCl [(o, .inr (11, [.ref aw, .ref bk, .ref ai, .ref ak, .ref sc, .ref rd, .ref fo, .ref tx, .int 0, .ref ar, .ref atr, .ref ao])), (bk, .inr (0, [.ref rk0, .ref rk1, .ref rk2, .ref rk3, .ref eak, .int 0])), (rk1, .inr (6, [.int 4, .int 5, .ref cak1, .int 0])), (ar, .inl (cr, 3, .inl (fun _ => 0)))] U.heap ∧ va_K (dC, dI) vwCl [(cr, .int)] U ∧ va_D (fun _ => True) [(o, .inr (11, [.ref aw, .ref bk, .ref ai, .ref ak, .ref sc, .ref rd, .ref fo, .ref tx, .int 0, .ref ar, .ref atr, .ref ao])), (bk, .inr (0, [.ref rk0, .ref rk1, .ref rk2, .ref rk3, .ref eak, .int 0])), (rk1, .inr (6, [.int 4, .int 5, .ref cak1, .int 0])), (ar, .inl (cr, 3, .inl (fun _ => 0)))])) (va_Qi (fun (r : Int32) (_ : Unit) => r = (-2)) (fun _ _ => True) (va_A [(o, .inr (11, [.ref aw, .ref bk, .ref ai, .ref ak, .ref sc, .ref rd, .ref fo, .ref tx, .int 0, .ref ar, .ref atr, .ref ao])), (bk, .inr (0, [.ref rk0, .ref rk1, .ref rk2, .ref rk3, .ref eak, .int 0])), (rk1, .inr (6, [.int 4, .int 5, .ref cak1, .int 0])), (ar, .inl (cr, 3, .inl (fun _ => 0)))] sz)) 0 0 (va_A [(o, .inr (11, [.ref aw, .ref bk, .ref ai, .ref ak, .ref sc, .ref rd, .ref fo, .ref tx, .int 0, .ref ar, .ref atr, .ref ao])), (bk, .inr (0, [.ref rk0, .ref rk1, .ref rk2, .ref rk3, .ref eak, .int 0])), (rk1, .inr (6, [.int 4, .int 5, .ref cak1, .int 0])), (ar, .inl (cr, 3, .inl (fun _ => 0)))] sz) := by
  refine Met.ofW (cc := cX11_truly) (maxL := 3) (ret := (some .int)) (by decide) rfl ?_
  intro p e s m args below meth c s₁ B hml hv
  obtain ⟨rfl, hsz, hP, hK, hD0⟩ := hv
  have hx := B.exec
  have hb := B.bytes
  have hr := B.returns
  have hts := atoms_spec (ws := wsX11_truly) B.pre
  have hown : s.vm.findClass RX11 = some m.cls := findClass_of_methodNamed B.named
  have hlocks := B.notSynchronized
  subst hsz
  have hD := hD0.self (sz := s.heap.size)
  generalize hAe : va_A [(o, .inr (11, [.ref aw, .ref bk, .ref ai, .ref ak, .ref sc, .ref rd, .ref fo, .ref tx, .int 0, .ref ar, .ref atr, .ref ao])), (bk, .inr (0, [.ref rk0, .ref rk1, .ref rk2, .ref rk3, .ref eak, .int 0])), (rk1, .inr (6, [.int 4, .int 5, .ref cak1, .int 0])), (ar, .inl (cr, 3, .inl (fun _ => 0)))] s.heap.size = A at hD ⊢
  have hA : ∀ q : Nat, s.heap.size ≤ q → A q := fun q h => by rw [← hAe]; exact Or.inr h
  have hS : va_S A s.heap s.heap [] := va_S.rf
  have hP : va_P (dC, dI) vwCl [(o, .inr (11, [.ref aw, .ref bk, .ref ai, .ref ak, .ref sc, .ref rd, .ref fo, .ref tx, .int 0, .ref ar, .ref atr, .ref ao])), (bk, .inr (0, [.ref rk0, .ref rk1, .ref rk2, .ref rk3, .ref eak, .int 0])), (rk1, .inr (6, [.int 4, .int 5, .ref cak1, .int 0])), (ar, .inl (cr, 3, .inl (fun _ => 0)))] s.heap := hP
  have hl := lv_entry ([.ref o, .int na, .int nb]) (n := 3) (Nat.le_of_ble_eq_true rfl)
  rw [lg_entry_eq]
  generalize (lg_sl ([.ref o, .int na, .int nb]) ++ List.replicate (3 - (lg_sl ([.ref o, .int na, .int nb])).length) Slot.unset).toArray = ls at hl ⊢
  have hl : lv_has ls 3 [(0, .ref o), (1, .int na), (2, .int nb)] := hl
  refine lv_aload_n hx hb dX11_truly_0 rfl (lv_at hl 0 rfl) ?_
  refine va_get (D := (dC, dI)) (ci := 11) (v := .ref bk) (C := RX11) (T := TX11) (N := 12) hx hb hts iw_k_x_truly_X11 hown hK hP 0 rfl rfl 1 (by decide) (hts (.fieldLink RX11 34 "ThriceCounted" "bank" "LThriceCounted$Bank;") (by decide +kernel)) (fun _ h9 => h9) rfl dX11_truly_1 ?_
  refine va_get (D := (dC, dI)) (ci := 0) (v := .ref rk1) (C := RX0) (T := TX0) (N := 6) hx hb hts iw_k_x_truly_X0 hown hK hP 1 rfl rfl 1 (by decide) (hts (.fieldLink RX11 85 "ThriceCounted$Bank" "bundles" "LThriceCounted$Rows;") (by decide +kernel)) (fun _ h9 => h9) rfl dX11_truly_4 ?_
  refine lv_iload_n hx hb dX11_truly_7 rfl (lv_at hl 1 rfl) ?_
  have hPc_1 := hP.sub (ws' := [(rk1, .inr (6, [.int 4, .int 5, .ref cak1, .int 0]))]) [2] rfl
  have hKc_2 := hK.sub (tys' := []) [] rfl
  refine vp_callSi (va_Run.run (va_runV (As := [.int na]) (rest := []) ⟨hx, hb, hml, hown, hts⟩ (k_has0 l dC dI rk1 (.int 4) (.int 5) (.ref cak1) na) (cwV 1 hts gX11_truly_X6_has rfl rfl rfl (by decide +kernel) ⟨Nat.le_of_ble_eq_true rfl, Nat.le_of_ble_eq_true rfl⟩) ⟨fun a U g mk q => by obtain ⟨q0, qP, qK⟩ := q; exact ⟨q0, qP, va_K.moved (u := U) (U := U.calling g mk a) (Vm.Alike.refl U.vm) qK⟩, va_recv hK hP (ci := 6) (q0 := 2) rfl rfl, fun U hU hW => ⟨rfl, by rw [hU]; exact hPc_1, va_K.moved hW.alike hKc_2⟩⟩ rfl rfl hl.1 rfl (lv_room (Nat.le_of_ble_eq_true rfl)) dX11_truly_8 ⟨Nat.le_of_ble_eq_true rfl, Nat.le_of_ble_eq_true rfl⟩)) (fun r_3 hw_4 => ?_)
  obtain rfl : 0 = r_3 := hw_4.symm
  refine lv_if_eq (tgt := 23) hx hb dX11_truly_11 (by decide) (fun c_5 => ?_) (fun c_5 => ?_)
  · refine lv_aload_n hx hb dX11_truly_23 rfl (lv_at hl 0 rfl) ?_
    refine lv_bipush (v := (-2)) hx hb dX11_truly_24 (by decide) ?_
    have hPc := hP.sub (ws' := [(o, .inr (11, [.ref aw, .ref bk, .ref ai, .ref ak, .ref sc, .ref rd, .ref fo, .ref tx, .int 0, .ref ar, .ref atr, .ref ao])), (ar, .inl (cr, 3, .inl (fun _ => 0)))]) [0, 3] rfl
    have hDc := hD.sub (ws' := [(o, .inr (11, [.ref aw, .ref bk, .ref ai, .ref ak, .ref sc, .ref rd, .ref fo, .ref tx, .int 0, .ref ar, .ref atr, .ref ao])), (ar, .inl (cr, 3, .inl (fun _ => 0)))]) [0, 3] (by decide) rfl
    have hKc := hK.sub (tys' := [(cr, .int)]) [0] rfl
    have hFc := va_free (wc := [(o, .inr (11, [.ref aw, .ref bk, .ref ai, .ref ak, .ref sc, .ref rd, .ref fo, .ref tx, .int 0, .ref ar, .ref atr, .ref ao])), (ar, .inl (cr, 3, .inl (fun _ => 0)))]) hD hS hA [0, 3] rfl
    refine va_calli (va_runV (As := [.int (-2)]) (rest := []) ⟨hx, hb, hml, hown, hts⟩ (k_refuse l dC dI o (.ref aw) (.ref bk) (.ref ai) (.ref ak) (.ref sc) (.ref rd) (.ref fo) (.ref tx) (.int 0) ar (.ref atr) (.ref ao) cr (fun _ => 0) (-2) s.heap.size) (cwV 1 hts gX11_truly_X11_refuse rfl rfl rfl (by decide +kernel) ⟨Nat.le_of_ble_eq_true rfl, Nat.le_of_ble_eq_true rfl⟩) ⟨fun a U g mk q => by obtain ⟨q0, q1, qP, qK, qD⟩ := q; exact ⟨q0, q1, qP, va_K.moved (u := U) (U := U.calling g mk a) (Vm.Alike.refl U.vm) qK, qD⟩, va_recv hK hP (ci := 11) (q0 := 0) rfl rfl, fun U hU hW => ⟨rfl, by rw [hU], by rw [hU]; exact hPc, va_K.moved hW.alike hKc, hDc.weaken (fun _ _ _ _ => trivial)⟩⟩ rfl rfl hl.1 rfl (lv_room (Nat.le_of_ble_eq_true rfl)) dX11_truly_26 ⟨Nat.le_of_ble_eq_true rfl, Nat.le_of_ble_eq_true rfl⟩) hS (fun q _ h => hFc q h) hFc (fun r_6 u_ t H1 locs ht hvm hw_7 hB hz1 hk1 hS => ?_)
    obtain ⟨hP, hD⟩ := va_join (wr := [(bk, .inr (0, [.ref rk0, .ref rk1, .ref rk2, .ref rk3, .ref eak, .int 0])), (rk1, .inr (6, [.int 4, .int 5, .ref cak1, .int 0]))]) (w1 := []) hP hD [0, 3] [1, 2] rfl rfl (by decide) (by decide) hk1 hFc tz_P0 tz_D0
    generalize H1 = H at hP hS ⊢
    have hP : va_P (dC, dI) vwCl [(bk, .inr (0, [.ref rk0, .ref rk1, .ref rk2, .ref rk3, .ref eak, .int 0])), (rk1, .inr (6, [.int 4, .int 5, .ref cak1, .int 0]))] H := hP
    have hD : va_D A [(bk, .inr (0, [.ref rk0, .ref rk1, .ref rk2, .ref rk3, .ref eak, .int 0])), (rk1, .inr (6, [.int 4, .int 5, .ref cak1, .int 0]))] := hD
    obtain rfl : (-2) = r_6 := hw_7.symm
    exact W.iret (v := (-2)) hx hb hr (fun t ht hW => ⟨⟨(-2), (), rfl, rfl, trivial⟩, hS.F ht⟩) hS.2.2 dX11_truly_29
  · exact absurd c_5 (by decide)
set_option maxRecDepth 20000 in
theorem ggX11_agreed_X6_has : GoodIn wsX11_agreed wsX6_has := goodIn_r _ [8, 9, 52, 53, 54, 55] (by decide +kernel) (by decide +kernel)
set_option maxRecDepth 20000 in
theorem gX11_agreed_X6_has : GoodIn wsX11_agreed (wsV RX11 124 RX6 yX6_has wsX6_has) := goodIn_app (goodIn_of _ (by decide +kernel)) ggX11_agreed_X6_has
set_option maxRecDepth 20000 in
theorem ggX11_agreed_X11_refuse : GoodIn wsX11_agreed wsX11_refuse := goodIn_r _ [14, 15, 16, 17, 13, 18, 19, 34, 35, 36, 37, 38, 39, 40, 41, 42, 43, 44, 45] (by decide +kernel) (by decide +kernel)
set_option maxRecDepth 20000 in
theorem gX11_agreed_X11_refuse : GoodIn wsX11_agreed (wsV RX11 106 RX11 yX11_refuse wsX11_refuse) := goodIn_app (goodIn_of _ (by decide +kernel)) ggX11_agreed_X11_refuse
theorem dX11_agreed_0 : decode cX11_agreed 0 = .ok (.aload_n 0, 1) := by decide +kernel
theorem dX11_agreed_1 : decode cX11_agreed 1 = .ok (.getfield 34, 3) := by decide +kernel
theorem dX11_agreed_4 : decode cX11_agreed 4 = .ok (.getfield 85, 3) := by decide +kernel
theorem dX11_agreed_7 : decode cX11_agreed 7 = .ok (.iload_n 1, 1) := by decide +kernel
theorem dX11_agreed_8 : decode cX11_agreed 8 = .ok (.invokevirtual 124, 3) := by decide +kernel
theorem dX11_agreed_11 : decode cX11_agreed 11 = .ok (.ifCond .ne 10, 3) := by decide +kernel
theorem dX11_agreed_14 : decode cX11_agreed 14 = .ok (.aload_n 0, 1) := by decide +kernel
theorem dX11_agreed_15 : decode cX11_agreed 15 = .ok (.bipush (-2), 2) := by decide +kernel
theorem dX11_agreed_17 : decode cX11_agreed 17 = .ok (.invokevirtual 106, 3) := by decide +kernel
theorem dX11_agreed_20 : decode cX11_agreed 20 = .ok (.ireturn, 1) := by decide +kernel
set_option maxRecDepth 20000 in
theorem iw_k_x_agreed_X11 : ∀ w ∈ wsX110, w ∈ wsX11_agreed := by decide +kernel
set_option maxRecDepth 20000 in
theorem iw_k_x_agreed_X0 : ∀ w ∈ wsX00, w ∈ wsX11_agreed := by decide +kernel
set_option maxHeartbeats 4000000 in
set_option maxRecDepth 100000 in
theorem k_x_agreed (l : Launch) (dC : Nat → ClassId) (dI : Nat → Nat → Nat) (o : Nat) (aw : Nat) (bk : Nat) (ai : Nat) (ak : Nat) (sc : Nat) (rd : Nat) (fo : Nat) (tx : Nat) (ar : Nat) (atr : Nat) (ao : Nat) (rk0 : Nat) (rk1 : Nat) (rk2 : Nat) (rk3 : Nat) (eak : Nat) (cak1 : Nat) (cr : ClassId) (na : Int32) (sz : Nat) : Met l yX11_agreed wsX11_agreed ({ frames := 2, cells := 0, slots := 0, locals := 44 }) (va_Pc [.ref o, .int na] (fun U => U.heap.size = sz ∧ va_P (dC, dI) vwCl [(o, .inr (11, [.ref aw, .ref bk, .ref ai, .ref ak, .ref sc, .ref rd, .ref fo, .ref tx, .int 0, .ref ar, .ref atr, .ref ao])), (bk, .inr (0, [.ref rk0, .ref rk1, .ref rk2, .ref rk3, .ref eak, .int 0])), (rk1, .inr (6, [.int 4, .int 5, .ref cak1, .int 0])), (ar, .inl (cr, 3, .inl (fun _ => 0)))] U.heap ∧ va_K (dC, dI) vwCl [(cr, .int)] U ∧ va_D (fun _ => True) [(o, .inr (11, [.ref aw, .ref bk, .ref ai, .ref ak, .ref sc, .ref rd, .ref fo, .ref tx, .int 0, .ref ar, .ref atr, .ref ao])), (bk, .inr (0, [.ref rk0, .ref rk1, .ref rk2, .ref rk3, .ref eak, .int 0])), (rk1, .inr (6, [.int 4, .int 5, .ref cak1, .int 0])), (ar, .inl (cr, 3, .inl (fun _ => 0)))])) (va_Qi (fun (r : Int32) (_ : Unit) => r = (-2)) (fun _ _ => True) (va_A [(o, .inr (11, [.ref aw, .ref bk, .ref ai, .ref ak, .ref sc, .ref rd, .ref fo, .ref tx, .int 0, .ref ar, .ref atr, .ref ao])), (bk, .inr (0, [.ref rk0, .ref rk1, .ref rk2, .ref rk3, .ref eak, .int 0])), (rk1, .inr (6, [.int 4, .int 5, .ref cak1, .int 0])), (ar, .inl (cr, 3, .inl (fun _ => 0)))] sz)) 0 0 (va_A [(o, .inr (11, [.ref aw, .ref bk, .ref ai, .ref ak, .ref sc, .ref rd, .ref fo, .ref tx, .int 0, .ref ar, .ref atr, .ref ao])), (bk, .inr (0, [.ref rk0, .ref rk1, .ref rk2, .ref rk3, .ref eak, .int 0])), (rk1, .inr (6, [.int 4, .int 5, .ref cak1, .int 0])), (ar, .inl (cr, 3, .inl (fun _ => 0)))] sz) := by
  refine Met.ofW (cc := cX11_agreed) (maxL := 5) (ret := (some .int)) (by decide) rfl ?_
  intro p e s m args below meth c s₁ B hml hv
  obtain ⟨rfl, hsz, hP, hK, hD0⟩ := hv
  have hx := B.exec
  have hb := B.bytes
  have hr := B.returns
  have hts := atoms_spec (ws := wsX11_agreed) B.pre
  have hown : s.vm.findClass RX11 = some m.cls := findClass_of_methodNamed B.named
  have hlocks := B.notSynchronized
  subst hsz
  have hD := hD0.self (sz := s.heap.size)
  generalize hAe : va_A [(o, .inr (11, [.ref aw, .ref bk, .ref ai, .ref ak, .ref sc, .ref rd, .ref fo, .ref tx, .int 0, .ref ar, .ref atr, .ref ao])), (bk, .inr (0, [.ref rk0, .ref rk1, .ref rk2, .ref rk3, .ref eak, .int 0])), (rk1, .inr (6, [.int 4, .int 5, .ref cak1, .int 0])), (ar, .inl (cr, 3, .inl (fun _ => 0)))] s.heap.size = A at hD ⊢
  have hA : ∀ q : Nat, s.heap.size ≤ q → A q := fun q h => by rw [← hAe]; exact Or.inr h
  have hS : va_S A s.heap s.heap [] := va_S.rf
  have hP : va_P (dC, dI) vwCl [(o, .inr (11, [.ref aw, .ref bk, .ref ai, .ref ak, .ref sc, .ref rd, .ref fo, .ref tx, .int 0, .ref ar, .ref atr, .ref ao])), (bk, .inr (0, [.ref rk0, .ref rk1, .ref rk2, .ref rk3, .ref eak, .int 0])), (rk1, .inr (6, [.int 4, .int 5, .ref cak1, .int 0])), (ar, .inl (cr, 3, .inl (fun _ => 0)))] s.heap := hP
  have hl := lv_entry ([.ref o, .int na]) (n := 5) (Nat.le_of_ble_eq_true rfl)
  rw [lg_entry_eq]
  generalize (lg_sl ([.ref o, .int na]) ++ List.replicate (5 - (lg_sl ([.ref o, .int na])).length) Slot.unset).toArray = ls at hl ⊢
  have hl : lv_has ls 5 [(0, .ref o), (1, .int na)] := hl
  refine lv_aload_n hx hb dX11_agreed_0 rfl (lv_at hl 0 rfl) ?_
  refine va_get (D := (dC, dI)) (ci := 11) (v := .ref bk) (C := RX11) (T := TX11) (N := 12) hx hb hts iw_k_x_agreed_X11 hown hK hP 0 rfl rfl 1 (by decide) (hts (.fieldLink RX11 34 "ThriceCounted" "bank" "LThriceCounted$Bank;") (by decide +kernel)) (fun _ h9 => h9) rfl dX11_agreed_1 ?_
  refine va_get (D := (dC, dI)) (ci := 0) (v := .ref rk1) (C := RX0) (T := TX0) (N := 6) hx hb hts iw_k_x_agreed_X0 hown hK hP 1 rfl rfl 1 (by decide) (hts (.fieldLink RX11 85 "ThriceCounted$Bank" "bundles" "LThriceCounted$Rows;") (by decide +kernel)) (fun _ h9 => h9) rfl dX11_agreed_4 ?_
  refine lv_iload_n hx hb dX11_agreed_7 rfl (lv_at hl 1 rfl) ?_
  have hPc_1 := hP.sub (ws' := [(rk1, .inr (6, [.int 4, .int 5, .ref cak1, .int 0]))]) [2] rfl
  have hKc_2 := hK.sub (tys' := []) [] rfl
  refine vp_callSi (va_Run.run (va_runV (As := [.int na]) (rest := []) ⟨hx, hb, hml, hown, hts⟩ (k_has0 l dC dI rk1 (.int 4) (.int 5) (.ref cak1) na) (cwV 1 hts gX11_agreed_X6_has rfl rfl rfl (by decide +kernel) ⟨Nat.le_of_ble_eq_true rfl, Nat.le_of_ble_eq_true rfl⟩) ⟨fun a U g mk q => by obtain ⟨q0, qP, qK⟩ := q; exact ⟨q0, qP, va_K.moved (u := U) (U := U.calling g mk a) (Vm.Alike.refl U.vm) qK⟩, va_recv hK hP (ci := 6) (q0 := 2) rfl rfl, fun U hU hW => ⟨rfl, by rw [hU]; exact hPc_1, va_K.moved hW.alike hKc_2⟩⟩ rfl rfl hl.1 rfl (lv_room (Nat.le_of_ble_eq_true rfl)) dX11_agreed_8 ⟨Nat.le_of_ble_eq_true rfl, Nat.le_of_ble_eq_true rfl⟩)) (fun r_3 hw_4 => ?_)
  obtain rfl : 0 = r_3 := hw_4.symm
  refine lv_if_ne (tgt := 21) hx hb dX11_agreed_11 (by decide) (fun c_5 => ?_) (fun c_5 => ?_)
  · exact absurd c_5 (by decide)
  · refine lv_aload_n hx hb dX11_agreed_14 rfl (lv_at hl 0 rfl) ?_
    refine lv_bipush (v := (-2)) hx hb dX11_agreed_15 (by decide) ?_
    have hPc := hP.sub (ws' := [(o, .inr (11, [.ref aw, .ref bk, .ref ai, .ref ak, .ref sc, .ref rd, .ref fo, .ref tx, .int 0, .ref ar, .ref atr, .ref ao])), (ar, .inl (cr, 3, .inl (fun _ => 0)))]) [0, 3] rfl
    have hDc := hD.sub (ws' := [(o, .inr (11, [.ref aw, .ref bk, .ref ai, .ref ak, .ref sc, .ref rd, .ref fo, .ref tx, .int 0, .ref ar, .ref atr, .ref ao])), (ar, .inl (cr, 3, .inl (fun _ => 0)))]) [0, 3] (by decide) rfl
    have hKc := hK.sub (tys' := [(cr, .int)]) [0] rfl
    have hFc := va_free (wc := [(o, .inr (11, [.ref aw, .ref bk, .ref ai, .ref ak, .ref sc, .ref rd, .ref fo, .ref tx, .int 0, .ref ar, .ref atr, .ref ao])), (ar, .inl (cr, 3, .inl (fun _ => 0)))]) hD hS hA [0, 3] rfl
    refine va_calli (va_runV (As := [.int (-2)]) (rest := []) ⟨hx, hb, hml, hown, hts⟩ (k_refuse l dC dI o (.ref aw) (.ref bk) (.ref ai) (.ref ak) (.ref sc) (.ref rd) (.ref fo) (.ref tx) (.int 0) ar (.ref atr) (.ref ao) cr (fun _ => 0) (-2) s.heap.size) (cwV 1 hts gX11_agreed_X11_refuse rfl rfl rfl (by decide +kernel) ⟨Nat.le_of_ble_eq_true rfl, Nat.le_of_ble_eq_true rfl⟩) ⟨fun a U g mk q => by obtain ⟨q0, q1, qP, qK, qD⟩ := q; exact ⟨q0, q1, qP, va_K.moved (u := U) (U := U.calling g mk a) (Vm.Alike.refl U.vm) qK, qD⟩, va_recv hK hP (ci := 11) (q0 := 0) rfl rfl, fun U hU hW => ⟨rfl, by rw [hU], by rw [hU]; exact hPc, va_K.moved hW.alike hKc, hDc.weaken (fun _ _ _ _ => trivial)⟩⟩ rfl rfl hl.1 rfl (lv_room (Nat.le_of_ble_eq_true rfl)) dX11_agreed_17 ⟨Nat.le_of_ble_eq_true rfl, Nat.le_of_ble_eq_true rfl⟩) hS (fun q _ h => hFc q h) hFc (fun r_6 u_ t H1 locs ht hvm hw_7 hB hz1 hk1 hS => ?_)
    obtain ⟨hP, hD⟩ := va_join (wr := [(bk, .inr (0, [.ref rk0, .ref rk1, .ref rk2, .ref rk3, .ref eak, .int 0])), (rk1, .inr (6, [.int 4, .int 5, .ref cak1, .int 0]))]) (w1 := []) hP hD [0, 3] [1, 2] rfl rfl (by decide) (by decide) hk1 hFc tz_P0 tz_D0
    generalize H1 = H at hP hS ⊢
    have hP : va_P (dC, dI) vwCl [(bk, .inr (0, [.ref rk0, .ref rk1, .ref rk2, .ref rk3, .ref eak, .int 0])), (rk1, .inr (6, [.int 4, .int 5, .ref cak1, .int 0]))] H := hP
    have hD : va_D A [(bk, .inr (0, [.ref rk0, .ref rk1, .ref rk2, .ref rk3, .ref eak, .int 0])), (rk1, .inr (6, [.int 4, .int 5, .ref cak1, .int 0]))] := hD
    obtain rfl : (-2) = r_6 := hw_7.symm
    exact W.iret (v := (-2)) hx hb hr (fun t ht hW => ⟨⟨(-2), (), rfl, rfl, trivial⟩, hS.F ht⟩) hS.2.2 dX11_agreed_20
set_option maxRecDepth 20000 in
theorem ggX11_believe_X6_size : GoodIn wsX11_believe wsX6_size := goodIn_r _ [8, 9, 112, 113, 114, 115] (by decide +kernel) (by decide +kernel)
set_option maxRecDepth 20000 in
theorem gX11_believe_X6_size : GoodIn wsX11_believe (wsV RX11 89 RX6 yX6_size wsX6_size) := goodIn_app (goodIn_of _ (by decide +kernel)) ggX11_believe_X6_size
theorem dX11_believe_0 : decode cX11_believe 0 = .ok (.aload_n 0, 1) := by decide +kernel
theorem dX11_believe_1 : decode cX11_believe 1 = .ok (.getfield 34, 3) := by decide +kernel
theorem dX11_believe_4 : decode cX11_believe 4 = .ok (.getfield 138, 3) := by decide +kernel
theorem dX11_believe_7 : decode cX11_believe 7 = .ok (.invokevirtual 89, 3) := by decide +kernel
theorem dX11_believe_10 : decode cX11_believe 10 = .ok (.ifCond .ne 5, 3) := by decide +kernel
theorem dX11_believe_13 : decode cX11_believe 13 = .ok (.iconst (-1), 1) := by decide +kernel
theorem dX11_believe_14 : decode cX11_believe 14 = .ok (.ireturn, 1) := by decide +kernel
set_option maxRecDepth 20000 in
theorem iw_k_x_believe_X11 : ∀ w ∈ wsX110, w ∈ wsX11_believe := by decide +kernel
set_option maxRecDepth 20000 in
theorem iw_k_x_believe_X0 : ∀ w ∈ wsX00, w ∈ wsX11_believe := by decide +kernel
set_option maxHeartbeats 4000000 in
set_option maxRecDepth 100000 in
theorem k_x_believe (l : Launch) (dC : Nat → ClassId) (dI : Nat → Nat → Nat) (o : Nat) (aw : Nat) (bk : Nat) (ai : Nat) (ak : Nat) (sc : Nat) (rd : Nat) (fo : Nat) (tx : Nat) (ar : Nat) (atr : Nat) (ao : Nat) (rk0 : Nat) (rk1 : Nat) (rk2 : Nat) (rk3 : Nat) (eak : Nat) (cak2 : Nat) (sz : Nat) : Met l yX11_believe wsX11_believe ({ frames := 1, cells := 0, slots := 0, locals := 20 }) (va_Pc [.ref o] (fun U => U.heap.size = sz ∧ va_P (dC, dI) vwCl [(o, .inr (11, [.ref aw, .ref bk, .ref ai, .ref ak, .ref sc, .ref rd, .ref fo, .ref tx, .int 0, .ref ar, .ref atr, .ref ao])), (bk, .inr (0, [.ref rk0, .ref rk1, .ref rk2, .ref rk3, .ref eak, .int 0])), (rk2, .inr (6, [.int 4, .int 8, .ref cak2, .int 0]))] U.heap ∧ va_K (dC, dI) vwCl [] U ∧ va_D (fun _ => True) [(o, .inr (11, [.ref aw, .ref bk, .ref ai, .ref ak, .ref sc, .ref rd, .ref fo, .ref tx, .int 0, .ref ar, .ref atr, .ref ao])), (bk, .inr (0, [.ref rk0, .ref rk1, .ref rk2, .ref rk3, .ref eak, .int 0])), (rk2, .inr (6, [.int 4, .int 8, .ref cak2, .int 0]))])) (va_Qi (fun (r : Int32) (_ : Unit) => r = (-1)) (fun _ _ => True) (va_A [(o, .inr (11, [.ref aw, .ref bk, .ref ai, .ref ak, .ref sc, .ref rd, .ref fo, .ref tx, .int 0, .ref ar, .ref atr, .ref ao])), (bk, .inr (0, [.ref rk0, .ref rk1, .ref rk2, .ref rk3, .ref eak, .int 0])), (rk2, .inr (6, [.int 4, .int 8, .ref cak2, .int 0]))] sz)) 0 0 (va_A [(o, .inr (11, [.ref aw, .ref bk, .ref ai, .ref ak, .ref sc, .ref rd, .ref fo, .ref tx, .int 0, .ref ar, .ref atr, .ref ao])), (bk, .inr (0, [.ref rk0, .ref rk1, .ref rk2, .ref rk3, .ref eak, .int 0])), (rk2, .inr (6, [.int 4, .int 8, .ref cak2, .int 0]))] sz) := by
  refine Met.ofW (cc := cX11_believe) (maxL := 3) (ret := (some .int)) (by decide) rfl ?_
  intro p e s m args below meth c s₁ B hml hv
  obtain ⟨rfl, hsz, hP, hK, hD0⟩ := hv
  have hx := B.exec
  have hb := B.bytes
  have hr := B.returns
  have hts := atoms_spec (ws := wsX11_believe) B.pre
  have hown : s.vm.findClass RX11 = some m.cls := findClass_of_methodNamed B.named
  have hlocks := B.notSynchronized
  subst hsz
  have hD := hD0.self (sz := s.heap.size)
  generalize hAe : va_A [(o, .inr (11, [.ref aw, .ref bk, .ref ai, .ref ak, .ref sc, .ref rd, .ref fo, .ref tx, .int 0, .ref ar, .ref atr, .ref ao])), (bk, .inr (0, [.ref rk0, .ref rk1, .ref rk2, .ref rk3, .ref eak, .int 0])), (rk2, .inr (6, [.int 4, .int 8, .ref cak2, .int 0]))] s.heap.size = A at hD ⊢
  have hA : ∀ q : Nat, s.heap.size ≤ q → A q := fun q h => by rw [← hAe]; exact Or.inr h
  have hS : va_S A s.heap s.heap [] := va_S.rf
  have hP : va_P (dC, dI) vwCl [(o, .inr (11, [.ref aw, .ref bk, .ref ai, .ref ak, .ref sc, .ref rd, .ref fo, .ref tx, .int 0, .ref ar, .ref atr, .ref ao])), (bk, .inr (0, [.ref rk0, .ref rk1, .ref rk2, .ref rk3, .ref eak, .int 0])), (rk2, .inr (6, [.int 4, .int 8, .ref cak2, .int 0]))] s.heap := hP
  have hl := lv_entry ([.ref o]) (n := 3) (Nat.le_of_ble_eq_true rfl)
  rw [lg_entry_eq]
  generalize (lg_sl ([.ref o]) ++ List.replicate (3 - (lg_sl ([.ref o])).length) Slot.unset).toArray = ls at hl ⊢
  have hl : lv_has ls 3 [(0, .ref o)] := hl
  refine lv_aload_n hx hb dX11_believe_0 rfl (lv_at hl 0 rfl) ?_
  refine va_get (D := (dC, dI)) (ci := 11) (v := .ref bk) (C := RX11) (T := TX11) (N := 12) hx hb hts iw_k_x_believe_X11 hown hK hP 0 rfl rfl 1 (by decide) (hts (.fieldLink RX11 34 "ThriceCounted" "bank" "LThriceCounted$Bank;") (by decide +kernel)) (fun _ h9 => h9) rfl dX11_believe_1 ?_
  refine va_get (D := (dC, dI)) (ci := 0) (v := .ref rk2) (C := RX0) (T := TX0) (N := 6) hx hb hts iw_k_x_believe_X0 hown hK hP 1 rfl rfl 2 (by decide) (hts (.fieldLink RX11 138 "ThriceCounted$Bank" "counts" "LThriceCounted$Rows;") (by decide +kernel)) (fun _ h9 => h9) rfl dX11_believe_4 ?_
  have hPc_1 := hP.sub (ws' := [(rk2, .inr (6, [.int 4, .int 8, .ref cak2, .int 0]))]) [2] rfl
  have hKc_2 := hK.sub (tys' := []) [] rfl
  refine vp_callSi (va_Run.run (va_runV (As := []) (rest := []) ⟨hx, hb, hml, hown, hts⟩ (k_size l dC dI rk2 (.int 4) (.int 8) (.ref cak2) 0) (cwV 0 hts gX11_believe_X6_size rfl rfl rfl (by decide +kernel) ⟨Nat.le_of_ble_eq_true rfl, Nat.le_of_ble_eq_true rfl⟩) ⟨fun a U g mk q => by obtain ⟨q0, qP, qK⟩ := q; exact ⟨q0, qP, va_K.moved (u := U) (U := U.calling g mk a) (Vm.Alike.refl U.vm) qK⟩, va_recv hK hP (ci := 6) (q0 := 2) rfl rfl, fun U hU hW => ⟨rfl, by rw [hU]; exact hPc_1, va_K.moved hW.alike hKc_2⟩⟩ rfl rfl hl.1 rfl (lv_room (Nat.le_of_ble_eq_true rfl)) dX11_believe_7 ⟨Nat.le_of_ble_eq_true rfl, Nat.le_of_ble_eq_true rfl⟩)) (fun r_3 hw_4 => ?_)
  obtain rfl : 0 = r_3 := hw_4.symm
  refine lv_if_ne (tgt := 15) hx hb dX11_believe_10 (by decide) (fun c_5 => ?_) (fun c_5 => ?_)
  · exact absurd c_5 (by decide)
  · refine lv_iconst (v := (-1)) hx hb dX11_believe_13 (by decide) ?_
    exact W.iret (v := (-1)) hx hb hr (fun t ht hW => ⟨⟨(-1), (), rfl, rfl, trivial⟩, hS.F ht⟩) hS.2.2 dX11_believe_14
set_option maxRecDepth 20000 in
theorem ggX11_wrong_X6_has : GoodIn wsX11_wrong wsX6_has := goodIn_r _ [10, 11, 128, 129, 130, 131] (by decide +kernel) (by decide +kernel)
set_option maxRecDepth 20000 in
theorem gX11_wrong_X6_has : GoodIn wsX11_wrong (wsV RX11 124 RX6 yX6_has wsX6_has) := goodIn_app (goodIn_of _ (by decide +kernel)) ggX11_wrong_X6_has
set_option maxRecDepth 20000 in
theorem ggX11_wrong_X11_refuse : GoodIn wsX11_wrong wsX11_refuse := goodIn_r _ [16, 17, 18, 19, 15, 20, 21, 110, 111, 112, 113, 114, 115, 116, 117, 118, 119, 120, 121] (by decide +kernel) (by decide +kernel)
set_option maxRecDepth 20000 in
theorem gX11_wrong_X11_refuse : GoodIn wsX11_wrong (wsV RX11 106 RX11 yX11_refuse wsX11_refuse) := goodIn_app (goodIn_of _ (by decide +kernel)) ggX11_wrong_X11_refuse
theorem dX11_wrong_0 : decode cX11_wrong 0 = .ok (.aload_n 0, 1) := by decide +kernel
theorem dX11_wrong_1 : decode cX11_wrong 1 = .ok (.getfield 34, 3) := by decide +kernel
theorem dX11_wrong_4 : decode cX11_wrong 4 = .ok (.getfield 138, 3) := by decide +kernel
theorem dX11_wrong_7 : decode cX11_wrong 7 = .ok (.iload_n 1, 1) := by decide +kernel
theorem dX11_wrong_8 : decode cX11_wrong 8 = .ok (.invokevirtual 124, 3) := by decide +kernel
theorem dX11_wrong_11 : decode cX11_wrong 11 = .ok (.ifCond .ne 10, 3) := by decide +kernel
theorem dX11_wrong_14 : decode cX11_wrong 14 = .ok (.aload_n 0, 1) := by decide +kernel
theorem dX11_wrong_15 : decode cX11_wrong 15 = .ok (.bipush (-2), 2) := by decide +kernel
theorem dX11_wrong_17 : decode cX11_wrong 17 = .ok (.invokevirtual 106, 3) := by decide +kernel
theorem dX11_wrong_20 : decode cX11_wrong 20 = .ok (.ireturn, 1) := by decide +kernel
set_option maxRecDepth 20000 in
theorem iw_k_x_wrong_X11 : ∀ w ∈ wsX110, w ∈ wsX11_wrong := by decide +kernel
set_option maxRecDepth 20000 in
theorem iw_k_x_wrong_X0 : ∀ w ∈ wsX00, w ∈ wsX11_wrong := by decide +kernel
set_option maxHeartbeats 4000000 in
set_option maxRecDepth 100000 in
theorem k_x_wrong (l : Launch) (dC : Nat → ClassId) (dI : Nat → Nat → Nat) (o : Nat) (aw : Nat) (bk : Nat) (ai : Nat) (ak : Nat) (sc : Nat) (rd : Nat) (fo : Nat) (tx : Nat) (ar : Nat) (atr : Nat) (ao : Nat) (rk0 : Nat) (rk1 : Nat) (rk2 : Nat) (rk3 : Nat) (eak : Nat) (cak2 : Nat) (cr : ClassId) (na : Int32) (sz : Nat) : Met l yX11_wrong wsX11_wrong ({ frames := 2, cells := 0, slots := 0, locals := 44 }) (va_Pc [.ref o, .int na] (fun U => U.heap.size = sz ∧ va_P (dC, dI) vwCl [(o, .inr (11, [.ref aw, .ref bk, .ref ai, .ref ak, .ref sc, .ref rd, .ref fo, .ref tx, .int 0, .ref ar, .ref atr, .ref ao])), (bk, .inr (0, [.ref rk0, .ref rk1, .ref rk2, .ref rk3, .ref eak, .int 0])), (rk2, .inr (6, [.int 4, .int 8, .ref cak2, .int 0])), (ar, .inl (cr, 3, .inl (fun _ => 0)))] U.heap ∧ va_K (dC, dI) vwCl [(cr, .int)] U ∧ va_D (fun _ => True) [(o, .inr (11, [.ref aw, .ref bk, .ref ai, .ref ak, .ref sc, .ref rd, .ref fo, .ref tx, .int 0, .ref ar, .ref atr, .ref ao])), (bk, .inr (0, [.ref rk0, .ref rk1, .ref rk2, .ref rk3, .ref eak, .int 0])), (rk2, .inr (6, [.int 4, .int 8, .ref cak2, .int 0])), (ar, .inl (cr, 3, .inl (fun _ => 0)))])) (va_Qi (fun (r : Int32) (_ : Unit) => r = (-2)) (fun _ _ => True) (va_A [(o, .inr (11, [.ref aw, .ref bk, .ref ai, .ref ak, .ref sc, .ref rd, .ref fo, .ref tx, .int 0, .ref ar, .ref atr, .ref ao])), (bk, .inr (0, [.ref rk0, .ref rk1, .ref rk2, .ref rk3, .ref eak, .int 0])), (rk2, .inr (6, [.int 4, .int 8, .ref cak2, .int 0])), (ar, .inl (cr, 3, .inl (fun _ => 0)))] sz)) 0 0 (va_A [(o, .inr (11, [.ref aw, .ref bk, .ref ai, .ref ak, .ref sc, .ref rd, .ref fo, .ref tx, .int 0, .ref ar, .ref atr, .ref ao])), (bk, .inr (0, [.ref rk0, .ref rk1, .ref rk2, .ref rk3, .ref eak, .int 0])), (rk2, .inr (6, [.int 4, .int 8, .ref cak2, .int 0])), (ar, .inl (cr, 3, .inl (fun _ => 0)))] sz) := by
  refine Met.ofW (cc := cX11_wrong) (maxL := 2) (ret := (some .int)) (by decide) rfl ?_
  intro p e s m args below meth c s₁ B hml hv
  obtain ⟨rfl, hsz, hP, hK, hD0⟩ := hv
  have hx := B.exec
  have hb := B.bytes
  have hr := B.returns
  have hts := atoms_spec (ws := wsX11_wrong) B.pre
  have hown : s.vm.findClass RX11 = some m.cls := findClass_of_methodNamed B.named
  have hlocks := B.notSynchronized
  subst hsz
  have hD := hD0.self (sz := s.heap.size)
  generalize hAe : va_A [(o, .inr (11, [.ref aw, .ref bk, .ref ai, .ref ak, .ref sc, .ref rd, .ref fo, .ref tx, .int 0, .ref ar, .ref atr, .ref ao])), (bk, .inr (0, [.ref rk0, .ref rk1, .ref rk2, .ref rk3, .ref eak, .int 0])), (rk2, .inr (6, [.int 4, .int 8, .ref cak2, .int 0])), (ar, .inl (cr, 3, .inl (fun _ => 0)))] s.heap.size = A at hD ⊢
  have hA : ∀ q : Nat, s.heap.size ≤ q → A q := fun q h => by rw [← hAe]; exact Or.inr h
  have hS : va_S A s.heap s.heap [] := va_S.rf
  have hP : va_P (dC, dI) vwCl [(o, .inr (11, [.ref aw, .ref bk, .ref ai, .ref ak, .ref sc, .ref rd, .ref fo, .ref tx, .int 0, .ref ar, .ref atr, .ref ao])), (bk, .inr (0, [.ref rk0, .ref rk1, .ref rk2, .ref rk3, .ref eak, .int 0])), (rk2, .inr (6, [.int 4, .int 8, .ref cak2, .int 0])), (ar, .inl (cr, 3, .inl (fun _ => 0)))] s.heap := hP
  have hl := lv_entry ([.ref o, .int na]) (n := 2) (Nat.le_of_ble_eq_true rfl)
  rw [lg_entry_eq]
  generalize (lg_sl ([.ref o, .int na]) ++ List.replicate (2 - (lg_sl ([.ref o, .int na])).length) Slot.unset).toArray = ls at hl ⊢
  have hl : lv_has ls 2 [(0, .ref o), (1, .int na)] := hl
  refine lv_aload_n hx hb dX11_wrong_0 rfl (lv_at hl 0 rfl) ?_
  refine va_get (D := (dC, dI)) (ci := 11) (v := .ref bk) (C := RX11) (T := TX11) (N := 12) hx hb hts iw_k_x_wrong_X11 hown hK hP 0 rfl rfl 1 (by decide) (hts (.fieldLink RX11 34 "ThriceCounted" "bank" "LThriceCounted$Bank;") (by decide +kernel)) (fun _ h9 => h9) rfl dX11_wrong_1 ?_
  refine va_get (D := (dC, dI)) (ci := 0) (v := .ref rk2) (C := RX0) (T := TX0) (N := 6) hx hb hts iw_k_x_wrong_X0 hown hK hP 1 rfl rfl 2 (by decide) (hts (.fieldLink RX11 138 "ThriceCounted$Bank" "counts" "LThriceCounted$Rows;") (by decide +kernel)) (fun _ h9 => h9) rfl dX11_wrong_4 ?_
  refine lv_iload_n hx hb dX11_wrong_7 rfl (lv_at hl 1 rfl) ?_
  have hPc_1 := hP.sub (ws' := [(rk2, .inr (6, [.int 4, .int 8, .ref cak2, .int 0]))]) [2] rfl
  have hKc_2 := hK.sub (tys' := []) [] rfl
  refine vp_callSi (va_Run.run (va_runV (As := [.int na]) (rest := []) ⟨hx, hb, hml, hown, hts⟩ (k_has0 l dC dI rk2 (.int 4) (.int 8) (.ref cak2) na) (cwV 1 hts gX11_wrong_X6_has rfl rfl rfl (by decide +kernel) ⟨Nat.le_of_ble_eq_true rfl, Nat.le_of_ble_eq_true rfl⟩) ⟨fun a U g mk q => by obtain ⟨q0, qP, qK⟩ := q; exact ⟨q0, qP, va_K.moved (u := U) (U := U.calling g mk a) (Vm.Alike.refl U.vm) qK⟩, va_recv hK hP (ci := 6) (q0 := 2) rfl rfl, fun U hU hW => ⟨rfl, by rw [hU]; exact hPc_1, va_K.moved hW.alike hKc_2⟩⟩ rfl rfl hl.1 rfl (lv_room (Nat.le_of_ble_eq_true rfl)) dX11_wrong_8 ⟨Nat.le_of_ble_eq_true rfl, Nat.le_of_ble_eq_true rfl⟩)) (fun r_3 hw_4 => ?_)
  obtain rfl : 0 = r_3 := hw_4.symm
  refine lv_if_ne (tgt := 21) hx hb dX11_wrong_11 (by decide) (fun c_5 => ?_) (fun c_5 => ?_)
  · exact absurd c_5 (by decide)
  · refine lv_aload_n hx hb dX11_wrong_14 rfl (lv_at hl 0 rfl) ?_
    refine lv_bipush (v := (-2)) hx hb dX11_wrong_15 (by decide) ?_
    have hPc := hP.sub (ws' := [(o, .inr (11, [.ref aw, .ref bk, .ref ai, .ref ak, .ref sc, .ref rd, .ref fo, .ref tx, .int 0, .ref ar, .ref atr, .ref ao])), (ar, .inl (cr, 3, .inl (fun _ => 0)))]) [0, 3] rfl
    have hDc := hD.sub (ws' := [(o, .inr (11, [.ref aw, .ref bk, .ref ai, .ref ak, .ref sc, .ref rd, .ref fo, .ref tx, .int 0, .ref ar, .ref atr, .ref ao])), (ar, .inl (cr, 3, .inl (fun _ => 0)))]) [0, 3] (by decide) rfl
    have hKc := hK.sub (tys' := [(cr, .int)]) [0] rfl
    have hFc := va_free (wc := [(o, .inr (11, [.ref aw, .ref bk, .ref ai, .ref ak, .ref sc, .ref rd, .ref fo, .ref tx, .int 0, .ref ar, .ref atr, .ref ao])), (ar, .inl (cr, 3, .inl (fun _ => 0)))]) hD hS hA [0, 3] rfl
    refine va_calli (va_runV (As := [.int (-2)]) (rest := []) ⟨hx, hb, hml, hown, hts⟩ (k_refuse l dC dI o (.ref aw) (.ref bk) (.ref ai) (.ref ak) (.ref sc) (.ref rd) (.ref fo) (.ref tx) (.int 0) ar (.ref atr) (.ref ao) cr (fun _ => 0) (-2) s.heap.size) (cwV 1 hts gX11_wrong_X11_refuse rfl rfl rfl (by decide +kernel) ⟨Nat.le_of_ble_eq_true rfl, Nat.le_of_ble_eq_true rfl⟩) ⟨fun a U g mk q => by obtain ⟨q0, q1, qP, qK, qD⟩ := q; exact ⟨q0, q1, qP, va_K.moved (u := U) (U := U.calling g mk a) (Vm.Alike.refl U.vm) qK, qD⟩, va_recv hK hP (ci := 11) (q0 := 0) rfl rfl, fun U hU hW => ⟨rfl, by rw [hU], by rw [hU]; exact hPc, va_K.moved hW.alike hKc, hDc.weaken (fun _ _ _ _ => trivial)⟩⟩ rfl rfl hl.1 rfl (lv_room (Nat.le_of_ble_eq_true rfl)) dX11_wrong_17 ⟨Nat.le_of_ble_eq_true rfl, Nat.le_of_ble_eq_true rfl⟩) hS (fun q _ h => hFc q h) hFc (fun r_6 u_ t H1 locs ht hvm hw_7 hB hz1 hk1 hS => ?_)
    obtain ⟨hP, hD⟩ := va_join (wr := [(bk, .inr (0, [.ref rk0, .ref rk1, .ref rk2, .ref rk3, .ref eak, .int 0])), (rk2, .inr (6, [.int 4, .int 8, .ref cak2, .int 0]))]) (w1 := []) hP hD [0, 3] [1, 2] rfl rfl (by decide) (by decide) hk1 hFc tz_P0 tz_D0
    generalize H1 = H at hP hS ⊢
    have hP : va_P (dC, dI) vwCl [(bk, .inr (0, [.ref rk0, .ref rk1, .ref rk2, .ref rk3, .ref eak, .int 0])), (rk2, .inr (6, [.int 4, .int 8, .ref cak2, .int 0]))] H := hP
    have hD : va_D A [(bk, .inr (0, [.ref rk0, .ref rk1, .ref rk2, .ref rk3, .ref eak, .int 0])), (rk2, .inr (6, [.int 4, .int 8, .ref cak2, .int 0]))] := hD
    obtain rfl : (-2) = r_6 := hw_7.symm
    exact W.iret (v := (-2)) hx hb hr (fun t ht hW => ⟨⟨(-2), (), rfl, rfl, trivial⟩, hS.F ht⟩) hS.2.2 dX11_wrong_20
set_option maxRecDepth 20000 in
theorem ggX11_enough_X6_has : GoodIn wsX11_enough wsX6_has := goodIn_r _ [10, 11, 133, 134, 135, 136] (by decide +kernel) (by decide +kernel)
set_option maxRecDepth 20000 in
theorem gX11_enough_X6_has : GoodIn wsX11_enough (wsV RX11 124 RX6 yX6_has wsX6_has) := goodIn_app (goodIn_of _ (by decide +kernel)) ggX11_enough_X6_has
set_option maxRecDepth 20000 in
theorem ggX11_enough_X11_refuse : GoodIn wsX11_enough wsX11_refuse := goodIn_r _ [23, 24, 25, 26, 15, 27, 28, 115, 116, 117, 118, 119, 120, 121, 122, 123, 124, 125, 126] (by decide +kernel) (by decide +kernel)
set_option maxRecDepth 20000 in
theorem gX11_enough_X11_refuse : GoodIn wsX11_enough (wsV RX11 106 RX11 yX11_refuse wsX11_refuse) := goodIn_app (goodIn_of _ (by decide +kernel)) ggX11_enough_X11_refuse
theorem dX11_enough_0 : decode cX11_enough 0 = .ok (.aload_n 0, 1) := by decide +kernel
theorem dX11_enough_1 : decode cX11_enough 1 = .ok (.getfield 34, 3) := by decide +kernel
theorem dX11_enough_4 : decode cX11_enough 4 = .ok (.getfield 85, 3) := by decide +kernel
theorem dX11_enough_7 : decode cX11_enough 7 = .ok (.iload_n 1, 1) := by decide +kernel
theorem dX11_enough_8 : decode cX11_enough 8 = .ok (.invokevirtual 124, 3) := by decide +kernel
theorem dX11_enough_11 : decode cX11_enough 11 = .ok (.ifCond .eq 21, 3) := by decide +kernel
theorem dX11_enough_32 : decode cX11_enough 32 = .ok (.aload_n 0, 1) := by decide +kernel
theorem dX11_enough_33 : decode cX11_enough 33 = .ok (.bipush (-2), 2) := by decide +kernel
theorem dX11_enough_35 : decode cX11_enough 35 = .ok (.invokevirtual 106, 3) := by decide +kernel
theorem dX11_enough_38 : decode cX11_enough 38 = .ok (.ireturn, 1) := by decide +kernel
set_option maxRecDepth 20000 in
theorem iw_k_x_enough_X11 : ∀ w ∈ wsX110, w ∈ wsX11_enough := by decide +kernel
set_option maxRecDepth 20000 in
theorem iw_k_x_enough_X0 : ∀ w ∈ wsX00, w ∈ wsX11_enough := by decide +kernel
set_option maxHeartbeats 4000000 in
set_option maxRecDepth 100000 in
theorem k_x_enough (l : Launch) (dC : Nat → ClassId) (dI : Nat → Nat → Nat) (o : Nat) (aw : Nat) (bk : Nat) (ai : Nat) (ak : Nat) (sc : Nat) (rd : Nat) (fo : Nat) (tx : Nat) (ar : Nat) (atr : Nat) (ao : Nat) (rk0 : Nat) (rk1 : Nat) (rk2 : Nat) (rk3 : Nat) (eak : Nat) (cak1 : Nat) (cr : ClassId) (na : Int32) (nb : Int32) (nc : Int32) (sz : Nat) : Met l yX11_enough wsX11_enough ({ frames := 2, cells := 0, slots := 0, locals := 44 }) (va_Pc [.ref o, .int na, .int nb, .int nc] (fun U => U.heap.size = sz ∧ va_P (dC, dI) vwCl [(o, .inr (11, [.ref aw, .ref bk, .ref ai, .ref ak, .ref sc, .ref rd, .ref fo, .ref tx, .int 0, .ref ar, .ref atr, .ref ao])), (bk, .inr (0, [.ref rk0, .ref rk1, .ref rk2, .ref rk3, .ref eak, .int 0])), (rk1, .inr (6, [.int 4, .int 5, .ref cak1, .int 0])), (ar, .inl (cr, 3, .inl (fun _ => 0)))] U.heap ∧ va_K (dC, dI) vwCl [(cr, .int)] U ∧ va_D (fun _ => True) [(o, .inr (11, [.ref aw, .ref bk, .ref ai, .ref ak, .ref sc, .ref rd, .ref fo, .ref tx, .int 0, .ref ar, .ref atr, .ref ao])), (bk, .inr (0, [.ref rk0, .ref rk1, .ref rk2, .ref rk3, .ref eak, .int 0])), (rk1, .inr (6, [.int 4, .int 5, .ref cak1, .int 0])), (ar, .inl (cr, 3, .inl (fun _ => 0)))])) (va_Qi (fun (r : Int32) (_ : Unit) => r = (-2)) (fun _ _ => True) (va_A [(o, .inr (11, [.ref aw, .ref bk, .ref ai, .ref ak, .ref sc, .ref rd, .ref fo, .ref tx, .int 0, .ref ar, .ref atr, .ref ao])), (bk, .inr (0, [.ref rk0, .ref rk1, .ref rk2, .ref rk3, .ref eak, .int 0])), (rk1, .inr (6, [.int 4, .int 5, .ref cak1, .int 0])), (ar, .inl (cr, 3, .inl (fun _ => 0)))] sz)) 0 0 (va_A [(o, .inr (11, [.ref aw, .ref bk, .ref ai, .ref ak, .ref sc, .ref rd, .ref fo, .ref tx, .int 0, .ref ar, .ref atr, .ref ao])), (bk, .inr (0, [.ref rk0, .ref rk1, .ref rk2, .ref rk3, .ref eak, .int 0])), (rk1, .inr (6, [.int 4, .int 5, .ref cak1, .int 0])), (ar, .inl (cr, 3, .inl (fun _ => 0)))] sz) := by
  refine Met.ofW (cc := cX11_enough) (maxL := 6) (ret := (some .int)) (by decide) rfl ?_
  intro p e s m args below meth c s₁ B hml hv
  obtain ⟨rfl, hsz, hP, hK, hD0⟩ := hv
  have hx := B.exec
  have hb := B.bytes
  have hr := B.returns
  have hts := atoms_spec (ws := wsX11_enough) B.pre
  have hown : s.vm.findClass RX11 = some m.cls := findClass_of_methodNamed B.named
  have hlocks := B.notSynchronized
  subst hsz
  have hD := hD0.self (sz := s.heap.size)
  generalize hAe : va_A [(o, .inr (11, [.ref aw, .ref bk, .ref ai, .ref ak, .ref sc, .ref rd, .ref fo, .ref tx, .int 0, .ref ar, .ref atr, .ref ao])), (bk, .inr (0, [.ref rk0, .ref rk1, .ref rk2, .ref rk3, .ref eak, .int 0])), (rk1, .inr (6, [.int 4, .int 5, .ref cak1, .int 0])), (ar, .inl (cr, 3, .inl (fun _ => 0)))] s.heap.size = A at hD ⊢
  have hA : ∀ q : Nat, s.heap.size ≤ q → A q := fun q h => by rw [← hAe]; exact Or.inr h
  have hS : va_S A s.heap s.heap [] := va_S.rf
  have hP : va_P (dC, dI) vwCl [(o, .inr (11, [.ref aw, .ref bk, .ref ai, .ref ak, .ref sc, .ref rd, .ref fo, .ref tx, .int 0, .ref ar, .ref atr, .ref ao])), (bk, .inr (0, [.ref rk0, .ref rk1, .ref rk2, .ref rk3, .ref eak, .int 0])), (rk1, .inr (6, [.int 4, .int 5, .ref cak1, .int 0])), (ar, .inl (cr, 3, .inl (fun _ => 0)))] s.heap := hP
  have hl := lv_entry ([.ref o, .int na, .int nb, .int nc]) (n := 6) (Nat.le_of_ble_eq_true rfl)
  rw [lg_entry_eq]
  generalize (lg_sl ([.ref o, .int na, .int nb, .int nc]) ++ List.replicate (6 - (lg_sl ([.ref o, .int na, .int nb, .int nc])).length) Slot.unset).toArray = ls at hl ⊢
  have hl : lv_has ls 6 [(0, .ref o), (1, .int na), (2, .int nb), (3, .int nc)] := hl
  refine lv_aload_n hx hb dX11_enough_0 rfl (lv_at hl 0 rfl) ?_
  refine va_get (D := (dC, dI)) (ci := 11) (v := .ref bk) (C := RX11) (T := TX11) (N := 12) hx hb hts iw_k_x_enough_X11 hown hK hP 0 rfl rfl 1 (by decide) (hts (.fieldLink RX11 34 "ThriceCounted" "bank" "LThriceCounted$Bank;") (by decide +kernel)) (fun _ h9 => h9) rfl dX11_enough_1 ?_
  refine va_get (D := (dC, dI)) (ci := 0) (v := .ref rk1) (C := RX0) (T := TX0) (N := 6) hx hb hts iw_k_x_enough_X0 hown hK hP 1 rfl rfl 1 (by decide) (hts (.fieldLink RX11 85 "ThriceCounted$Bank" "bundles" "LThriceCounted$Rows;") (by decide +kernel)) (fun _ h9 => h9) rfl dX11_enough_4 ?_
  refine lv_iload_n hx hb dX11_enough_7 rfl (lv_at hl 1 rfl) ?_
  have hPc_1 := hP.sub (ws' := [(rk1, .inr (6, [.int 4, .int 5, .ref cak1, .int 0]))]) [2] rfl
  have hKc_2 := hK.sub (tys' := []) [] rfl
  refine vp_callSi (va_Run.run (va_runV (As := [.int na]) (rest := []) ⟨hx, hb, hml, hown, hts⟩ (k_has0 l dC dI rk1 (.int 4) (.int 5) (.ref cak1) na) (cwV 1 hts gX11_enough_X6_has rfl rfl rfl (by decide +kernel) ⟨Nat.le_of_ble_eq_true rfl, Nat.le_of_ble_eq_true rfl⟩) ⟨fun a U g mk q => by obtain ⟨q0, qP, qK⟩ := q; exact ⟨q0, qP, va_K.moved (u := U) (U := U.calling g mk a) (Vm.Alike.refl U.vm) qK⟩, va_recv hK hP (ci := 6) (q0 := 2) rfl rfl, fun U hU hW => ⟨rfl, by rw [hU]; exact hPc_1, va_K.moved hW.alike hKc_2⟩⟩ rfl rfl hl.1 rfl (lv_room (Nat.le_of_ble_eq_true rfl)) dX11_enough_8 ⟨Nat.le_of_ble_eq_true rfl, Nat.le_of_ble_eq_true rfl⟩)) (fun r_3 hw_4 => ?_)
  obtain rfl : 0 = r_3 := hw_4.symm
  refine lv_if_eq (tgt := 32) hx hb dX11_enough_11 (by decide) (fun c_5 => ?_) (fun c_5 => ?_)
  · refine lv_aload_n hx hb dX11_enough_32 rfl (lv_at hl 0 rfl) ?_
    refine lv_bipush (v := (-2)) hx hb dX11_enough_33 (by decide) ?_
    have hPc := hP.sub (ws' := [(o, .inr (11, [.ref aw, .ref bk, .ref ai, .ref ak, .ref sc, .ref rd, .ref fo, .ref tx, .int 0, .ref ar, .ref atr, .ref ao])), (ar, .inl (cr, 3, .inl (fun _ => 0)))]) [0, 3] rfl
    have hDc := hD.sub (ws' := [(o, .inr (11, [.ref aw, .ref bk, .ref ai, .ref ak, .ref sc, .ref rd, .ref fo, .ref tx, .int 0, .ref ar, .ref atr, .ref ao])), (ar, .inl (cr, 3, .inl (fun _ => 0)))]) [0, 3] (by decide) rfl
    have hKc := hK.sub (tys' := [(cr, .int)]) [0] rfl
    have hFc := va_free (wc := [(o, .inr (11, [.ref aw, .ref bk, .ref ai, .ref ak, .ref sc, .ref rd, .ref fo, .ref tx, .int 0, .ref ar, .ref atr, .ref ao])), (ar, .inl (cr, 3, .inl (fun _ => 0)))]) hD hS hA [0, 3] rfl
    refine va_calli (va_runV (As := [.int (-2)]) (rest := []) ⟨hx, hb, hml, hown, hts⟩ (k_refuse l dC dI o (.ref aw) (.ref bk) (.ref ai) (.ref ak) (.ref sc) (.ref rd) (.ref fo) (.ref tx) (.int 0) ar (.ref atr) (.ref ao) cr (fun _ => 0) (-2) s.heap.size) (cwV 1 hts gX11_enough_X11_refuse rfl rfl rfl (by decide +kernel) ⟨Nat.le_of_ble_eq_true rfl, Nat.le_of_ble_eq_true rfl⟩) ⟨fun a U g mk q => by obtain ⟨q0, q1, qP, qK, qD⟩ := q; exact ⟨q0, q1, qP, va_K.moved (u := U) (U := U.calling g mk a) (Vm.Alike.refl U.vm) qK, qD⟩, va_recv hK hP (ci := 11) (q0 := 0) rfl rfl, fun U hU hW => ⟨rfl, by rw [hU], by rw [hU]; exact hPc, va_K.moved hW.alike hKc, hDc.weaken (fun _ _ _ _ => trivial)⟩⟩ rfl rfl hl.1 rfl (lv_room (Nat.le_of_ble_eq_true rfl)) dX11_enough_35 ⟨Nat.le_of_ble_eq_true rfl, Nat.le_of_ble_eq_true rfl⟩) hS (fun q _ h => hFc q h) hFc (fun r_6 u_ t H1 locs ht hvm hw_7 hB hz1 hk1 hS => ?_)
    obtain ⟨hP, hD⟩ := va_join (wr := [(bk, .inr (0, [.ref rk0, .ref rk1, .ref rk2, .ref rk3, .ref eak, .int 0])), (rk1, .inr (6, [.int 4, .int 5, .ref cak1, .int 0]))]) (w1 := []) hP hD [0, 3] [1, 2] rfl rfl (by decide) (by decide) hk1 hFc tz_P0 tz_D0
    generalize H1 = H at hP hS ⊢
    have hP : va_P (dC, dI) vwCl [(bk, .inr (0, [.ref rk0, .ref rk1, .ref rk2, .ref rk3, .ref eak, .int 0])), (rk1, .inr (6, [.int 4, .int 5, .ref cak1, .int 0]))] H := hP
    have hD : va_D A [(bk, .inr (0, [.ref rk0, .ref rk1, .ref rk2, .ref rk3, .ref eak, .int 0])), (rk1, .inr (6, [.int 4, .int 5, .ref cak1, .int 0]))] := hD
    obtain rfl : (-2) = r_6 := hw_7.symm
    exact W.iret (v := (-2)) hx hb hr (fun t ht hW => ⟨⟨(-2), (), rfl, rfl, trivial⟩, hS.F ht⟩) hS.2.2 dX11_enough_38
  · exact absurd c_5 (by decide)
set_option maxRecDepth 20000 in
theorem ggX11_plan_X6_has : GoodIn wsX11_plan wsX6_has := goodIn_r _ [10, 11, 178, 179, 180, 181] (by decide +kernel) (by decide +kernel)
set_option maxRecDepth 20000 in
theorem gX11_plan_X6_has : GoodIn wsX11_plan (wsV RX11 124 RX6 yX6_has wsX6_has) := goodIn_app (goodIn_of _ (by decide +kernel)) ggX11_plan_X6_has
set_option maxRecDepth 20000 in
theorem ggX11_plan_X11_refuse : GoodIn wsX11_plan wsX11_refuse := goodIn_r _ [19, 20, 21, 22, 14, 23, 24, 160, 161, 162, 163, 164, 165, 166, 167, 168, 169, 170, 171] (by decide +kernel) (by decide +kernel)
set_option maxRecDepth 20000 in
theorem gX11_plan_X11_refuse : GoodIn wsX11_plan (wsV RX11 106 RX11 yX11_refuse wsX11_refuse) := goodIn_app (goodIn_of _ (by decide +kernel)) ggX11_plan_X11_refuse
theorem dX11_plan_0 : decode cX11_plan 0 = .ok (.aload_n 0, 1) := by decide +kernel
theorem dX11_plan_1 : decode cX11_plan 1 = .ok (.getfield 34, 3) := by decide +kernel
theorem dX11_plan_4 : decode cX11_plan 4 = .ok (.getfield 85, 3) := by decide +kernel
theorem dX11_plan_7 : decode cX11_plan 7 = .ok (.iload_n 1, 1) := by decide +kernel
theorem dX11_plan_8 : decode cX11_plan 8 = .ok (.invokevirtual 124, 3) := by decide +kernel
theorem dX11_plan_11 : decode cX11_plan 11 = .ok (.ifCond .eq 13, 3) := by decide +kernel
theorem dX11_plan_24 : decode cX11_plan 24 = .ok (.aload_n 0, 1) := by decide +kernel
theorem dX11_plan_25 : decode cX11_plan 25 = .ok (.bipush (-2), 2) := by decide +kernel
theorem dX11_plan_27 : decode cX11_plan 27 = .ok (.invokevirtual 106, 3) := by decide +kernel
theorem dX11_plan_30 : decode cX11_plan 30 = .ok (.ireturn, 1) := by decide +kernel
set_option maxRecDepth 20000 in
theorem iw_k_x_plan_X11 : ∀ w ∈ wsX110, w ∈ wsX11_plan := by decide +kernel
set_option maxRecDepth 20000 in
theorem iw_k_x_plan_X0 : ∀ w ∈ wsX00, w ∈ wsX11_plan := by decide +kernel
set_option maxHeartbeats 4000000 in
set_option maxRecDepth 100000 in
theorem k_x_plan (l : Launch) (dC : Nat → ClassId) (dI : Nat → Nat → Nat) (o : Nat) (aw : Nat) (bk : Nat) (ai : Nat) (ak : Nat) (sc : Nat) (rd : Nat) (fo : Nat) (tx : Nat) (ar : Nat) (atr : Nat) (ao : Nat) (rk0 : Nat) (rk1 : Nat) (rk2 : Nat) (rk3 : Nat) (eak : Nat) (cak1 : Nat) (cr : ClassId) (na : Int32) (nb : Int32) (sz : Nat) : Met l yX11_plan wsX11_plan ({ frames := 2, cells := 0, slots := 0, locals := 44 }) (va_Pc [.ref o, .int na, .int nb] (fun U => U.heap.size = sz ∧ va_P (dC, dI) vwCl [(o, .inr (11, [.ref aw, .ref bk, .ref ai, .ref ak, .ref sc, .ref rd, .ref fo, .ref tx, .int 0, .ref ar, .ref atr, .ref ao])), (bk, .inr (0, [.ref rk0, .ref rk1, .ref rk2, .ref rk3, .ref eak, .int 0])), (rk1, .inr (6, [.int 4, .int 5, .ref cak1, .int 0])), (ar, .inl (cr, 3, .inl (fun _ => 0)))] U.heap ∧ va_K (dC, dI) vwCl [(cr, .int)] U ∧ va_D (fun _ => True) [(o, .inr (11, [.ref aw, .ref bk, .ref ai, .ref ak, .ref sc, .ref rd, .ref fo, .ref tx, .int 0, .ref ar, .ref atr, .ref ao])), (bk, .inr (0, [.ref rk0, .ref rk1, .ref rk2, .ref rk3, .ref eak, .int 0])), (rk1, .inr (6, [.int 4, .int 5, .ref cak1, .int 0])), (ar, .inl (cr, 3, .inl (fun _ => 0)))])) (va_Qi (fun (r : Int32) (_ : Unit) => r = (-2)) (fun _ _ => True) (va_A [(o, .inr (11, [.ref aw, .ref bk, .ref ai, .ref ak, .ref sc, .ref rd, .ref fo, .ref tx, .int 0, .ref ar, .ref atr, .ref ao])), (bk, .inr (0, [.ref rk0, .ref rk1, .ref rk2, .ref rk3, .ref eak, .int 0])), (rk1, .inr (6, [.int 4, .int 5, .ref cak1, .int 0])), (ar, .inl (cr, 3, .inl (fun _ => 0)))] sz)) 0 0 (va_A [(o, .inr (11, [.ref aw, .ref bk, .ref ai, .ref ak, .ref sc, .ref rd, .ref fo, .ref tx, .int 0, .ref ar, .ref atr, .ref ao])), (bk, .inr (0, [.ref rk0, .ref rk1, .ref rk2, .ref rk3, .ref eak, .int 0])), (rk1, .inr (6, [.int 4, .int 5, .ref cak1, .int 0])), (ar, .inl (cr, 3, .inl (fun _ => 0)))] sz) := by
  refine Met.ofW (cc := cX11_plan) (maxL := 10) (ret := (some .int)) (by decide) rfl ?_
  intro p e s m args below meth c s₁ B hml hv
  obtain ⟨rfl, hsz, hP, hK, hD0⟩ := hv
  have hx := B.exec
  have hb := B.bytes
  have hr := B.returns
  have hts := atoms_spec (ws := wsX11_plan) B.pre
  have hown : s.vm.findClass RX11 = some m.cls := findClass_of_methodNamed B.named
  have hlocks := B.notSynchronized
  subst hsz
  have hD := hD0.self (sz := s.heap.size)
  generalize hAe : va_A [(o, .inr (11, [.ref aw, .ref bk, .ref ai, .ref ak, .ref sc, .ref rd, .ref fo, .ref tx, .int 0, .ref ar, .ref atr, .ref ao])), (bk, .inr (0, [.ref rk0, .ref rk1, .ref rk2, .ref rk3, .ref eak, .int 0])), (rk1, .inr (6, [.int 4, .int 5, .ref cak1, .int 0])), (ar, .inl (cr, 3, .inl (fun _ => 0)))] s.heap.size = A at hD ⊢
  have hA : ∀ q : Nat, s.heap.size ≤ q → A q := fun q h => by rw [← hAe]; exact Or.inr h
  have hS : va_S A s.heap s.heap [] := va_S.rf
  have hP : va_P (dC, dI) vwCl [(o, .inr (11, [.ref aw, .ref bk, .ref ai, .ref ak, .ref sc, .ref rd, .ref fo, .ref tx, .int 0, .ref ar, .ref atr, .ref ao])), (bk, .inr (0, [.ref rk0, .ref rk1, .ref rk2, .ref rk3, .ref eak, .int 0])), (rk1, .inr (6, [.int 4, .int 5, .ref cak1, .int 0])), (ar, .inl (cr, 3, .inl (fun _ => 0)))] s.heap := hP
  have hl := lv_entry ([.ref o, .int na, .int nb]) (n := 10) (Nat.le_of_ble_eq_true rfl)
  rw [lg_entry_eq]
  generalize (lg_sl ([.ref o, .int na, .int nb]) ++ List.replicate (10 - (lg_sl ([.ref o, .int na, .int nb])).length) Slot.unset).toArray = ls at hl ⊢
  have hl : lv_has ls 10 [(0, .ref o), (1, .int na), (2, .int nb)] := hl
  refine lv_aload_n hx hb dX11_plan_0 rfl (lv_at hl 0 rfl) ?_
  refine va_get (D := (dC, dI)) (ci := 11) (v := .ref bk) (C := RX11) (T := TX11) (N := 12) hx hb hts iw_k_x_plan_X11 hown hK hP 0 rfl rfl 1 (by decide) (hts (.fieldLink RX11 34 "ThriceCounted" "bank" "LThriceCounted$Bank;") (by decide +kernel)) (fun _ h9 => h9) rfl dX11_plan_1 ?_
  refine va_get (D := (dC, dI)) (ci := 0) (v := .ref rk1) (C := RX0) (T := TX0) (N := 6) hx hb hts iw_k_x_plan_X0 hown hK hP 1 rfl rfl 1 (by decide) (hts (.fieldLink RX11 85 "ThriceCounted$Bank" "bundles" "LThriceCounted$Rows;") (by decide +kernel)) (fun _ h9 => h9) rfl dX11_plan_4 ?_
  refine lv_iload_n hx hb dX11_plan_7 rfl (lv_at hl 1 rfl) ?_
  have hPc_1 := hP.sub (ws' := [(rk1, .inr (6, [.int 4, .int 5, .ref cak1, .int 0]))]) [2] rfl
  have hKc_2 := hK.sub (tys' := []) [] rfl
  refine vp_callSi (va_Run.run (va_runV (As := [.int na]) (rest := []) ⟨hx, hb, hml, hown, hts⟩ (k_has0 l dC dI rk1 (.int 4) (.int 5) (.ref cak1) na) (cwV 1 hts gX11_plan_X6_has rfl rfl rfl (by decide +kernel) ⟨Nat.le_of_ble_eq_true rfl, Nat.le_of_ble_eq_true rfl⟩) ⟨fun a U g mk q => by obtain ⟨q0, qP, qK⟩ := q; exact ⟨q0, qP, va_K.moved (u := U) (U := U.calling g mk a) (Vm.Alike.refl U.vm) qK⟩, va_recv hK hP (ci := 6) (q0 := 2) rfl rfl, fun U hU hW => ⟨rfl, by rw [hU]; exact hPc_1, va_K.moved hW.alike hKc_2⟩⟩ rfl rfl hl.1 rfl (lv_room (Nat.le_of_ble_eq_true rfl)) dX11_plan_8 ⟨Nat.le_of_ble_eq_true rfl, Nat.le_of_ble_eq_true rfl⟩)) (fun r_3 hw_4 => ?_)
  obtain rfl : 0 = r_3 := hw_4.symm
  refine lv_if_eq (tgt := 24) hx hb dX11_plan_11 (by decide) (fun c_5 => ?_) (fun c_5 => ?_)
  · refine lv_aload_n hx hb dX11_plan_24 rfl (lv_at hl 0 rfl) ?_
    refine lv_bipush (v := (-2)) hx hb dX11_plan_25 (by decide) ?_
    have hPc := hP.sub (ws' := [(o, .inr (11, [.ref aw, .ref bk, .ref ai, .ref ak, .ref sc, .ref rd, .ref fo, .ref tx, .int 0, .ref ar, .ref atr, .ref ao])), (ar, .inl (cr, 3, .inl (fun _ => 0)))]) [0, 3] rfl
    have hDc := hD.sub (ws' := [(o, .inr (11, [.ref aw, .ref bk, .ref ai, .ref ak, .ref sc, .ref rd, .ref fo, .ref tx, .int 0, .ref ar, .ref atr, .ref ao])), (ar, .inl (cr, 3, .inl (fun _ => 0)))]) [0, 3] (by decide) rfl
    have hKc := hK.sub (tys' := [(cr, .int)]) [0] rfl
    have hFc := va_free (wc := [(o, .inr (11, [.ref aw, .ref bk, .ref ai, .ref ak, .ref sc, .ref rd, .ref fo, .ref tx, .int 0, .ref ar, .ref atr, .ref ao])), (ar, .inl (cr, 3, .inl (fun _ => 0)))]) hD hS hA [0, 3] rfl
    refine va_calli (va_runV (As := [.int (-2)]) (rest := []) ⟨hx, hb, hml, hown, hts⟩ (k_refuse l dC dI o (.ref aw) (.ref bk) (.ref ai) (.ref ak) (.ref sc) (.ref rd) (.ref fo) (.ref tx) (.int 0) ar (.ref atr) (.ref ao) cr (fun _ => 0) (-2) s.heap.size) (cwV 1 hts gX11_plan_X11_refuse rfl rfl rfl (by decide +kernel) ⟨Nat.le_of_ble_eq_true rfl, Nat.le_of_ble_eq_true rfl⟩) ⟨fun a U g mk q => by obtain ⟨q0, q1, qP, qK, qD⟩ := q; exact ⟨q0, q1, qP, va_K.moved (u := U) (U := U.calling g mk a) (Vm.Alike.refl U.vm) qK, qD⟩, va_recv hK hP (ci := 11) (q0 := 0) rfl rfl, fun U hU hW => ⟨rfl, by rw [hU], by rw [hU]; exact hPc, va_K.moved hW.alike hKc, hDc.weaken (fun _ _ _ _ => trivial)⟩⟩ rfl rfl hl.1 rfl (lv_room (Nat.le_of_ble_eq_true rfl)) dX11_plan_27 ⟨Nat.le_of_ble_eq_true rfl, Nat.le_of_ble_eq_true rfl⟩) hS (fun q _ h => hFc q h) hFc (fun r_6 u_ t H1 locs ht hvm hw_7 hB hz1 hk1 hS => ?_)
    obtain ⟨hP, hD⟩ := va_join (wr := [(bk, .inr (0, [.ref rk0, .ref rk1, .ref rk2, .ref rk3, .ref eak, .int 0])), (rk1, .inr (6, [.int 4, .int 5, .ref cak1, .int 0]))]) (w1 := []) hP hD [0, 3] [1, 2] rfl rfl (by decide) (by decide) hk1 hFc tz_P0 tz_D0
    generalize H1 = H at hP hS ⊢
    have hP : va_P (dC, dI) vwCl [(bk, .inr (0, [.ref rk0, .ref rk1, .ref rk2, .ref rk3, .ref eak, .int 0])), (rk1, .inr (6, [.int 4, .int 5, .ref cak1, .int 0]))] H := hP
    have hD : va_D A [(bk, .inr (0, [.ref rk0, .ref rk1, .ref rk2, .ref rk3, .ref eak, .int 0])), (rk1, .inr (6, [.int 4, .int 5, .ref cak1, .int 0]))] := hD
    obtain rfl : (-2) = r_6 := hw_7.symm
    exact W.iret (v := (-2)) hx hb hr (fun t ht hW => ⟨⟨(-2), (), rfl, rfl, trivial⟩, hS.F ht⟩) hS.2.2 dX11_plan_30
  · exact absurd c_5 (by decide)
set_option maxRecDepth 20000 in
theorem ggX11_open_X11_findTruths : GoodIn wsX11_open wsX11_findTruths := goodIn_r _ [8, 1, 2, 3, 9, 10, 11, 12, 13, 14, 15, 16, 17, 18, 19, 20, 21, 22, 23, 24, 25, 26, 27, 28, 29, 30, 31, 32, 33, 34, 35, 36, 37, 38, 39, 40, 41, 42, 43, 44, 45, 46, 47, 48, 49, 50, 51, 52, 53, 54, 55, 56, 57, 58, 59, 60, 61, 62, 63, 64, 65, 66, 67, 68, 69, 70, 71, 72, 73, 74, 75, 76, 77, 78, 79, 80, 81, 82, 83, 84, 85, 86, 88, 89, 90, 91, 92, 93, 94, 95, 96, 97, 98, 99, 100, 101, 102, 103, 104, 105, 106, 107, 108, 109, 110, 111] (by decide +kernel) (by decide +kernel)
set_option maxRecDepth 20000 in
theorem gX11_open_X11_findTruths : GoodIn wsX11_open (wsV RX11 205 RX11 yX11_findTruths wsX11_findTruths) := goodIn_app (goodIn_of _ (by decide +kernel)) ggX11_open_X11_findTruths
set_option maxRecDepth 20000 in
theorem ggX11_open_X6_size : GoodIn wsX11_open wsX6_size := goodIn_r _ [15, 16, 106, 107, 108, 109] (by decide +kernel) (by decide +kernel)
set_option maxRecDepth 20000 in
theorem gX11_open_X6_size : GoodIn wsX11_open (wsV RX11 89 RX6 yX6_size wsX6_size) := goodIn_app (goodIn_of _ (by decide +kernel)) ggX11_open_X6_size
theorem dX11_open_0 : decode cX11_open 0 = .ok (.aload_n 0, 1) := by decide +kernel
theorem dX11_open_1 : decode cX11_open 1 = .ok (.invokevirtual 205, 3) := by decide +kernel
theorem dX11_open_4 : decode cX11_open 4 = .ok (.iconst 0, 1) := by decide +kernel
theorem dX11_open_5 : decode cX11_open 5 = .ok (.istore_n 1, 1) := by decide +kernel
theorem dX11_open_6 : decode cX11_open 6 = .ok (.iconst 0, 1) := by decide +kernel
theorem dX11_open_7 : decode cX11_open 7 = .ok (.istore_n 2, 1) := by decide +kernel
theorem dX11_open_8 : decode cX11_open 8 = .ok (.iload_n 2, 1) := by decide +kernel
theorem dX11_open_9 : decode cX11_open 9 = .ok (.aload_n 0, 1) := by decide +kernel
theorem dX11_open_10 : decode cX11_open 10 = .ok (.getfield 34, 3) := by decide +kernel
theorem dX11_open_13 : decode cX11_open 13 = .ok (.getfield 85, 3) := by decide +kernel
theorem dX11_open_16 : decode cX11_open 16 = .ok (.invokevirtual 89, 3) := by decide +kernel
theorem dX11_open_19 : decode cX11_open 19 = .ok (.if_icmp .ge 62, 3) := by decide +kernel
theorem dX11_open_81 : decode cX11_open 81 = .ok (.iload_n 1, 1) := by decide +kernel
theorem dX11_open_82 : decode cX11_open 82 = .ok (.ireturn, 1) := by decide +kernel
set_option maxRecDepth 20000 in
theorem iw_k_x_open_X11 : ∀ w ∈ wsX110, w ∈ wsX11_open := by decide +kernel
set_option maxRecDepth 20000 in
theorem iw_k_x_open_X0 : ∀ w ∈ wsX00, w ∈ wsX11_open := by decide +kernel
set_option maxHeartbeats 4000000 in
set_option maxRecDepth 100000 in
theorem k_x_open (l : Launch) (dC : Nat → ClassId) (dI : Nat → Nat → Nat) (o : Nat) (aw : Nat) (bk : Nat) (ai : Nat) (ak : Nat) (sc : Nat) (rd : Nat) (fo : Nat) (tx : Nat) (ar : Nat) (atr : Nat) (ao : Nat) (rk0 : Nat) (rk1 : Nat) (rk2 : Nat) (rk3 : Nat) (eak : Nat) (cak1 : Nat) (sz : Nat) : Met l yX11_open wsX11_open ({ frames := 2, cells := 0, slots := 0, locals := 41 }) (va_Pc [.ref o] (fun U => U.heap.size = sz ∧ va_P (dC, dI) vwCl [(o, .inr (11, [.ref aw, .ref bk, .ref ai, .ref ak, .ref sc, .ref rd, .ref fo, .ref tx, .int 0, .ref ar, .ref atr, .ref ao])), (bk, .inr (0, [.ref rk0, .ref rk1, .ref rk2, .ref rk3, .ref eak, .int 0])), (rk1, .inr (6, [.int 4, .int 5, .ref cak1, .int 0]))] U.heap ∧ va_K (dC, dI) vwCl [] U ∧ va_D (fun _ => True) [(o, .inr (11, [.ref aw, .ref bk, .ref ai, .ref ak, .ref sc, .ref rd, .ref fo, .ref tx, .int 0, .ref ar, .ref atr, .ref ao])), (bk, .inr (0, [.ref rk0, .ref rk1, .ref rk2, .ref rk3, .ref eak, .int 0])), (rk1, .inr (6, [.int 4, .int 5, .ref cak1, .int 0]))])) (va_Qi (fun (r : Int32) (_ : Unit) => r = 0) (fun _ _ => True) (va_A [(o, .inr (11, [.ref aw, .ref bk, .ref ai, .ref ak, .ref sc, .ref rd, .ref fo, .ref tx, .int 0, .ref ar, .ref atr, .ref ao])), (bk, .inr (0, [.ref rk0, .ref rk1, .ref rk2, .ref rk3, .ref eak, .int 0])), (rk1, .inr (6, [.int 4, .int 5, .ref cak1, .int 0]))] sz)) 0 0 (va_A [(o, .inr (11, [.ref aw, .ref bk, .ref ai, .ref ak, .ref sc, .ref rd, .ref fo, .ref tx, .int 0, .ref ar, .ref atr, .ref ao])), (bk, .inr (0, [.ref rk0, .ref rk1, .ref rk2, .ref rk3, .ref eak, .int 0])), (rk1, .inr (6, [.int 4, .int 5, .ref cak1, .int 0]))] sz) := by
  refine Met.ofW (cc := cX11_open) (maxL := 4) (ret := (some .int)) (by decide) rfl ?_
  intro p e s m args below meth c s₁ B hml hv
  obtain ⟨rfl, hsz, hP, hK, hD0⟩ := hv
  have hx := B.exec
  have hb := B.bytes
  have hr := B.returns
  have hts := atoms_spec (ws := wsX11_open) B.pre
  have hown : s.vm.findClass RX11 = some m.cls := findClass_of_methodNamed B.named
  have hlocks := B.notSynchronized
  subst hsz
  have hD := hD0.self (sz := s.heap.size)
  generalize hAe : va_A [(o, .inr (11, [.ref aw, .ref bk, .ref ai, .ref ak, .ref sc, .ref rd, .ref fo, .ref tx, .int 0, .ref ar, .ref atr, .ref ao])), (bk, .inr (0, [.ref rk0, .ref rk1, .ref rk2, .ref rk3, .ref eak, .int 0])), (rk1, .inr (6, [.int 4, .int 5, .ref cak1, .int 0]))] s.heap.size = A at hD ⊢
  have hA : ∀ q : Nat, s.heap.size ≤ q → A q := fun q h => by rw [← hAe]; exact Or.inr h
  have hS : va_S A s.heap s.heap [] := va_S.rf
  have hP : va_P (dC, dI) vwCl [(o, .inr (11, [.ref aw, .ref bk, .ref ai, .ref ak, .ref sc, .ref rd, .ref fo, .ref tx, .int 0, .ref ar, .ref atr, .ref ao])), (bk, .inr (0, [.ref rk0, .ref rk1, .ref rk2, .ref rk3, .ref eak, .int 0])), (rk1, .inr (6, [.int 4, .int 5, .ref cak1, .int 0]))] s.heap := hP
  have hl := lv_entry ([.ref o]) (n := 4) (Nat.le_of_ble_eq_true rfl)
  rw [lg_entry_eq]
  generalize (lg_sl ([.ref o]) ++ List.replicate (4 - (lg_sl ([.ref o])).length) Slot.unset).toArray = ls at hl ⊢
  have hl : lv_has ls 4 [(0, .ref o)] := hl
  refine lv_aload_n hx hb dX11_open_0 rfl (lv_at hl 0 rfl) ?_
  have hPc_1 := hP.sub (ws' := [(o, .inr (11, [.ref aw, .ref bk, .ref ai, .ref ak, .ref sc, .ref rd, .ref fo, .ref tx, .int 0, .ref ar, .ref atr, .ref ao])), (bk, .inr (0, [.ref rk0, .ref rk1, .ref rk2, .ref rk3, .ref eak, .int 0])), (rk1, .inr (6, [.int 4, .int 5, .ref cak1, .int 0]))]) [0, 1, 2] rfl
  have hKc_2 := hK.sub (tys' := []) [] rfl
  refine va_csv (va_Run.run (va_runV (As := []) (rest := []) ⟨hx, hb, hml, hown, hts⟩ (k_findTruths l dC dI o aw bk ai ak sc rd fo tx ar atr ao rk0 rk1 rk2 rk3 eak cak1) (cwV 0 hts gX11_open_X11_findTruths rfl rfl rfl (by decide +kernel) ⟨Nat.le_of_ble_eq_true rfl, Nat.le_of_ble_eq_true rfl⟩) ⟨fun a U g mk q => by obtain ⟨q0, qP, qK⟩ := q; exact ⟨q0, qP, va_K.moved (u := U) (U := U.calling g mk a) (Vm.Alike.refl U.vm) qK⟩, va_recv hK hP (ci := 11) (q0 := 0) rfl rfl, fun U hU hW => ⟨rfl, by rw [hU]; exact hPc_1, va_K.moved hW.alike hKc_2⟩⟩ rfl rfl hl.1 rfl (lv_room (Nat.le_of_ble_eq_true rfl)) dX11_open_1 ⟨Nat.le_of_ble_eq_true rfl, Nat.le_of_ble_eq_true rfl⟩)) (fun hw_4 => ?_)
  refine lv_iconst (v := 0) hx hb dX11_open_4 (by decide) ?_
  refine lv_istore_n (lv' := [(1, .int 0), (0, .ref o)]) hx hb dX11_open_5 rfl hl (by decide) rfl (fun ls hl => ?_)
  refine lv_iconst (v := 0) hx hb dX11_open_6 (by decide) ?_
  refine lv_istore_n (lv' := [(2, .int 0), (1, .int 0), (0, .ref o)]) hx hb dX11_open_7 rfl hl (by decide) rfl (fun ls hl => ?_)
  refine lv_iload_n hx hb dX11_open_8 rfl (lv_at hl 0 rfl) ?_
  refine lv_aload_n hx hb dX11_open_9 rfl (lv_at hl 2 rfl) ?_
  refine va_get (D := (dC, dI)) (ci := 11) (v := .ref bk) (C := RX11) (T := TX11) (N := 12) hx hb hts iw_k_x_open_X11 hown hK hP 0 rfl rfl 1 (by decide) (hts (.fieldLink RX11 34 "ThriceCounted" "bank" "LThriceCounted$Bank;") (by decide +kernel)) (fun _ h9 => h9) rfl dX11_open_10 ?_
  refine va_get (D := (dC, dI)) (ci := 0) (v := .ref rk1) (C := RX0) (T := TX0) (N := 6) hx hb hts iw_k_x_open_X0 hown hK hP 1 rfl rfl 1 (by decide) (hts (.fieldLink RX11 85 "ThriceCounted$Bank" "bundles" "LThriceCounted$Rows;") (by decide +kernel)) (fun _ h9 => h9) rfl dX11_open_13 ?_
  have hPc_5 := hP.sub (ws' := [(rk1, .inr (6, [.int 4, .int 5, .ref cak1, .int 0]))]) [2] rfl
  have hKc_6 := hK.sub (tys' := []) [] rfl
  refine vp_callSi (va_Run.run (va_runV (As := []) (rest := [.int 0]) ⟨hx, hb, hml, hown, hts⟩ (k_size l dC dI rk1 (.int 4) (.int 5) (.ref cak1) 0) (cwV 0 hts gX11_open_X6_size rfl rfl rfl (by decide +kernel) ⟨Nat.le_of_ble_eq_true rfl, Nat.le_of_ble_eq_true rfl⟩) ⟨fun a U g mk q => by obtain ⟨q0, qP, qK⟩ := q; exact ⟨q0, qP, va_K.moved (u := U) (U := U.calling g mk a) (Vm.Alike.refl U.vm) qK⟩, va_recv hK hP (ci := 6) (q0 := 2) rfl rfl, fun U hU hW => ⟨rfl, by rw [hU]; exact hPc_5, va_K.moved hW.alike hKc_6⟩⟩ rfl rfl hl.1 rfl (lv_room (Nat.le_of_ble_eq_true rfl)) dX11_open_16 ⟨Nat.le_of_ble_eq_true rfl, Nat.le_of_ble_eq_true rfl⟩)) (fun r_7 hw_8 => ?_)
  obtain rfl : 0 = r_7 := hw_8.symm
  refine lv_icmp_ge (tgt := 81) hx hb dX11_open_19 (by decide) (fun c_9 => ?_) (fun c_9 => ?_)
  · refine lv_iload_n hx hb dX11_open_81 rfl (lv_at hl 1 rfl) ?_
    exact W.iret (v := 0) hx hb hr (fun t ht hW => ⟨⟨0, (), rfl, rfl, trivial⟩, hS.F ht⟩) hS.2.2 dX11_open_82
  · exact absurd c_9 (by decide)
set_option maxRecDepth 20000 in
theorem ggX11_sum_X11_findTruths : GoodIn wsX11_sum wsX11_findTruths := goodIn_r _ [8, 1, 2, 3, 9, 10, 11, 12, 13, 14, 15, 16, 17, 18, 19, 20, 21, 22, 23, 24, 25, 26, 27, 28, 29, 30, 31, 32, 33, 34, 35, 36, 37, 38, 39, 40, 41, 42, 43, 44, 45, 46, 47, 48, 49, 50, 51, 52, 53, 54, 55, 56, 57, 58, 59, 60, 61, 62, 63, 64, 65, 66, 67, 68, 69, 70, 71, 72, 73, 74, 75, 76, 77, 78, 79, 80, 81, 82, 83, 84, 85, 86, 87, 88, 89, 90, 91, 92, 93, 94, 95, 96, 97, 98, 99, 100, 101, 102, 103, 104, 105, 106, 107, 108, 109, 110] (by decide +kernel) (by decide +kernel)
set_option maxRecDepth 20000 in
theorem gX11_sum_X11_findTruths : GoodIn wsX11_sum (wsV RX11 205 RX11 yX11_findTruths wsX11_findTruths) := goodIn_app (goodIn_of _ (by decide +kernel)) ggX11_sum_X11_findTruths
set_option maxRecDepth 20000 in
theorem ggX11_sum_X6_size : GoodIn wsX11_sum wsX6_size := goodIn_r _ [15, 16, 105, 106, 107, 108] (by decide +kernel) (by decide +kernel)
set_option maxRecDepth 20000 in
theorem gX11_sum_X6_size : GoodIn wsX11_sum (wsV RX11 89 RX6 yX6_size wsX6_size) := goodIn_app (goodIn_of _ (by decide +kernel)) ggX11_sum_X6_size
theorem dX11_sum_0 : decode cX11_sum 0 = .ok (.aload_n 0, 1) := by decide +kernel
theorem dX11_sum_1 : decode cX11_sum 1 = .ok (.invokevirtual 205, 3) := by decide +kernel
theorem dX11_sum_4 : decode cX11_sum 4 = .ok (.iconst 0, 1) := by decide +kernel
theorem dX11_sum_5 : decode cX11_sum 5 = .ok (.istore_n 1, 1) := by decide +kernel
theorem dX11_sum_6 : decode cX11_sum 6 = .ok (.iconst 0, 1) := by decide +kernel
theorem dX11_sum_7 : decode cX11_sum 7 = .ok (.istore_n 2, 1) := by decide +kernel
theorem dX11_sum_8 : decode cX11_sum 8 = .ok (.iload_n 2, 1) := by decide +kernel
theorem dX11_sum_9 : decode cX11_sum 9 = .ok (.aload_n 0, 1) := by decide +kernel
theorem dX11_sum_10 : decode cX11_sum 10 = .ok (.getfield 34, 3) := by decide +kernel
theorem dX11_sum_13 : decode cX11_sum 13 = .ok (.getfield 85, 3) := by decide +kernel
theorem dX11_sum_16 : decode cX11_sum 16 = .ok (.invokevirtual 89, 3) := by decide +kernel
theorem dX11_sum_19 : decode cX11_sum 19 = .ok (.if_icmp .ge 39, 3) := by decide +kernel
theorem dX11_sum_58 : decode cX11_sum 58 = .ok (.iload_n 1, 1) := by decide +kernel
theorem dX11_sum_59 : decode cX11_sum 59 = .ok (.ireturn, 1) := by decide +kernel
set_option maxRecDepth 20000 in
theorem iw_k_x_sum_X11 : ∀ w ∈ wsX110, w ∈ wsX11_sum := by decide +kernel
set_option maxRecDepth 20000 in
theorem iw_k_x_sum_X0 : ∀ w ∈ wsX00, w ∈ wsX11_sum := by decide +kernel
set_option maxHeartbeats 4000000 in
set_option maxRecDepth 100000 in
theorem k_x_sum (l : Launch) (dC : Nat → ClassId) (dI : Nat → Nat → Nat) (o : Nat) (aw : Nat) (bk : Nat) (ai : Nat) (ak : Nat) (sc : Nat) (rd : Nat) (fo : Nat) (tx : Nat) (ar : Nat) (atr : Nat) (ao : Nat) (rk0 : Nat) (rk1 : Nat) (rk2 : Nat) (rk3 : Nat) (eak : Nat) (cak1 : Nat) (sz : Nat) : Met l yX11_sum wsX11_sum ({ frames := 2, cells := 0, slots := 0, locals := 41 }) (va_Pc [.ref o] (fun U => U.heap.size = sz ∧ va_P (dC, dI) vwCl [(o, .inr (11, [.ref aw, .ref bk, .ref ai, .ref ak, .ref sc, .ref rd, .ref fo, .ref tx, .int 0, .ref ar, .ref atr, .ref ao])), (bk, .inr (0, [.ref rk0, .ref rk1, .ref rk2, .ref rk3, .ref eak, .int 0])), (rk1, .inr (6, [.int 4, .int 5, .ref cak1, .int 0]))] U.heap ∧ va_K (dC, dI) vwCl [] U ∧ va_D (fun _ => True) [(o, .inr (11, [.ref aw, .ref bk, .ref ai, .ref ak, .ref sc, .ref rd, .ref fo, .ref tx, .int 0, .ref ar, .ref atr, .ref ao])), (bk, .inr (0, [.ref rk0, .ref rk1, .ref rk2, .ref rk3, .ref eak, .int 0])), (rk1, .inr (6, [.int 4, .int 5, .ref cak1, .int 0]))])) (va_Qi (fun (r : Int32) (_ : Unit) => r = 0) (fun _ _ => True) (va_A [(o, .inr (11, [.ref aw, .ref bk, .ref ai, .ref ak, .ref sc, .ref rd, .ref fo, .ref tx, .int 0, .ref ar, .ref atr, .ref ao])), (bk, .inr (0, [.ref rk0, .ref rk1, .ref rk2, .ref rk3, .ref eak, .int 0])), (rk1, .inr (6, [.int 4, .int 5, .ref cak1, .int 0]))] sz)) 0 0 (va_A [(o, .inr (11, [.ref aw, .ref bk, .ref ai, .ref ak, .ref sc, .ref rd, .ref fo, .ref tx, .int 0, .ref ar, .ref atr, .ref ao])), (bk, .inr (0, [.ref rk0, .ref rk1, .ref rk2, .ref rk3, .ref eak, .int 0])), (rk1, .inr (6, [.int 4, .int 5, .ref cak1, .int 0]))] sz) := by
  refine Met.ofW (cc := cX11_sum) (maxL := 3) (ret := (some .int)) (by decide) rfl ?_
  intro p e s m args below meth c s₁ B hml hv
  obtain ⟨rfl, hsz, hP, hK, hD0⟩ := hv
  have hx := B.exec
  have hb := B.bytes
  have hr := B.returns
  have hts := atoms_spec (ws := wsX11_sum) B.pre
  have hown : s.vm.findClass RX11 = some m.cls := findClass_of_methodNamed B.named
  have hlocks := B.notSynchronized
  subst hsz
  have hD := hD0.self (sz := s.heap.size)
  generalize hAe : va_A [(o, .inr (11, [.ref aw, .ref bk, .ref ai, .ref ak, .ref sc, .ref rd, .ref fo, .ref tx, .int 0, .ref ar, .ref atr, .ref ao])), (bk, .inr (0, [.ref rk0, .ref rk1, .ref rk2, .ref rk3, .ref eak, .int 0])), (rk1, .inr (6, [.int 4, .int 5, .ref cak1, .int 0]))] s.heap.size = A at hD ⊢
  have hA : ∀ q : Nat, s.heap.size ≤ q → A q := fun q h => by rw [← hAe]; exact Or.inr h
  have hS : va_S A s.heap s.heap [] := va_S.rf
  have hP : va_P (dC, dI) vwCl [(o, .inr (11, [.ref aw, .ref bk, .ref ai, .ref ak, .ref sc, .ref rd, .ref fo, .ref tx, .int 0, .ref ar, .ref atr, .ref ao])), (bk, .inr (0, [.ref rk0, .ref rk1, .ref rk2, .ref rk3, .ref eak, .int 0])), (rk1, .inr (6, [.int 4, .int 5, .ref cak1, .int 0]))] s.heap := hP
  have hl := lv_entry ([.ref o]) (n := 3) (Nat.le_of_ble_eq_true rfl)
  rw [lg_entry_eq]
  generalize (lg_sl ([.ref o]) ++ List.replicate (3 - (lg_sl ([.ref o])).length) Slot.unset).toArray = ls at hl ⊢
  have hl : lv_has ls 3 [(0, .ref o)] := hl
  refine lv_aload_n hx hb dX11_sum_0 rfl (lv_at hl 0 rfl) ?_
  have hPc_1 := hP.sub (ws' := [(o, .inr (11, [.ref aw, .ref bk, .ref ai, .ref ak, .ref sc, .ref rd, .ref fo, .ref tx, .int 0, .ref ar, .ref atr, .ref ao])), (bk, .inr (0, [.ref rk0, .ref rk1, .ref rk2, .ref rk3, .ref eak, .int 0])), (rk1, .inr (6, [.int 4, .int 5, .ref cak1, .int 0]))]) [0, 1, 2] rfl
  have hKc_2 := hK.sub (tys' := []) [] rfl
  refine va_csv (va_Run.run (va_runV (As := []) (rest := []) ⟨hx, hb, hml, hown, hts⟩ (k_findTruths l dC dI o aw bk ai ak sc rd fo tx ar atr ao rk0 rk1 rk2 rk3 eak cak1) (cwV 0 hts gX11_sum_X11_findTruths rfl rfl rfl (by decide +kernel) ⟨Nat.le_of_ble_eq_true rfl, Nat.le_of_ble_eq_true rfl⟩) ⟨fun a U g mk q => by obtain ⟨q0, qP, qK⟩ := q; exact ⟨q0, qP, va_K.moved (u := U) (U := U.calling g mk a) (Vm.Alike.refl U.vm) qK⟩, va_recv hK hP (ci := 11) (q0 := 0) rfl rfl, fun U hU hW => ⟨rfl, by rw [hU]; exact hPc_1, va_K.moved hW.alike hKc_2⟩⟩ rfl rfl hl.1 rfl (lv_room (Nat.le_of_ble_eq_true rfl)) dX11_sum_1 ⟨Nat.le_of_ble_eq_true rfl, Nat.le_of_ble_eq_true rfl⟩)) (fun hw_4 => ?_)
  refine lv_iconst (v := 0) hx hb dX11_sum_4 (by decide) ?_
  refine lv_istore_n (lv' := [(1, .int 0), (0, .ref o)]) hx hb dX11_sum_5 rfl hl (by decide) rfl (fun ls hl => ?_)
  refine lv_iconst (v := 0) hx hb dX11_sum_6 (by decide) ?_
  refine lv_istore_n (lv' := [(2, .int 0), (1, .int 0), (0, .ref o)]) hx hb dX11_sum_7 rfl hl (by decide) rfl (fun ls hl => ?_)
  refine lv_iload_n hx hb dX11_sum_8 rfl (lv_at hl 0 rfl) ?_
  refine lv_aload_n hx hb dX11_sum_9 rfl (lv_at hl 2 rfl) ?_
  refine va_get (D := (dC, dI)) (ci := 11) (v := .ref bk) (C := RX11) (T := TX11) (N := 12) hx hb hts iw_k_x_sum_X11 hown hK hP 0 rfl rfl 1 (by decide) (hts (.fieldLink RX11 34 "ThriceCounted" "bank" "LThriceCounted$Bank;") (by decide +kernel)) (fun _ h9 => h9) rfl dX11_sum_10 ?_
  refine va_get (D := (dC, dI)) (ci := 0) (v := .ref rk1) (C := RX0) (T := TX0) (N := 6) hx hb hts iw_k_x_sum_X0 hown hK hP 1 rfl rfl 1 (by decide) (hts (.fieldLink RX11 85 "ThriceCounted$Bank" "bundles" "LThriceCounted$Rows;") (by decide +kernel)) (fun _ h9 => h9) rfl dX11_sum_13 ?_
  have hPc_5 := hP.sub (ws' := [(rk1, .inr (6, [.int 4, .int 5, .ref cak1, .int 0]))]) [2] rfl
  have hKc_6 := hK.sub (tys' := []) [] rfl
  refine vp_callSi (va_Run.run (va_runV (As := []) (rest := [.int 0]) ⟨hx, hb, hml, hown, hts⟩ (k_size l dC dI rk1 (.int 4) (.int 5) (.ref cak1) 0) (cwV 0 hts gX11_sum_X6_size rfl rfl rfl (by decide +kernel) ⟨Nat.le_of_ble_eq_true rfl, Nat.le_of_ble_eq_true rfl⟩) ⟨fun a U g mk q => by obtain ⟨q0, qP, qK⟩ := q; exact ⟨q0, qP, va_K.moved (u := U) (U := U.calling g mk a) (Vm.Alike.refl U.vm) qK⟩, va_recv hK hP (ci := 6) (q0 := 2) rfl rfl, fun U hU hW => ⟨rfl, by rw [hU]; exact hPc_5, va_K.moved hW.alike hKc_6⟩⟩ rfl rfl hl.1 rfl (lv_room (Nat.le_of_ble_eq_true rfl)) dX11_sum_16 ⟨Nat.le_of_ble_eq_true rfl, Nat.le_of_ble_eq_true rfl⟩)) (fun r_7 hw_8 => ?_)
  obtain rfl : 0 = r_7 := hw_8.symm
  refine lv_icmp_ge (tgt := 58) hx hb dX11_sum_19 (by decide) (fun c_9 => ?_) (fun c_9 => ?_)
  · refine lv_iload_n hx hb dX11_sum_58 rfl (lv_at hl 1 rfl) ?_
    exact W.iret (v := 0) hx hb hr (fun t ht hW => ⟨⟨0, (), rfl, rfl, trivial⟩, hS.F ht⟩) hS.2.2 dX11_sum_59
  · exact absurd c_9 (by decide)
set_option maxRecDepth 20000 in
theorem ggX11_forget_X6_size : GoodIn wsX11_forget wsX6_size := goodIn_r _ [7, 8, 31, 32, 33, 34] (by decide +kernel) (by decide +kernel)
set_option maxRecDepth 20000 in
theorem gX11_forget_X6_size : GoodIn wsX11_forget (wsV RX11 89 RX6 yX6_size wsX6_size) := goodIn_app (goodIn_of _ (by decide +kernel)) ggX11_forget_X6_size
set_option maxRecDepth 20000 in
theorem ggX11_forget_X6_empty : GoodIn wsX11_forget wsX6_empty := goodIn_r _ [12, 8, 31, 32, 33, 34] (by decide +kernel) (by decide +kernel)
set_option maxRecDepth 20000 in
theorem gX11_forget_X6_empty : GoodIn wsX11_forget (wsV RX11 233 RX6 yX6_empty wsX6_empty) := goodIn_app (goodIn_of _ (by decide +kernel)) ggX11_forget_X6_empty
theorem dX11_forget_0 : decode cX11_forget 0 = .ok (.aload_n 0, 1) := by decide +kernel
theorem dX11_forget_1 : decode cX11_forget 1 = .ok (.getfield 34, 3) := by decide +kernel
theorem dX11_forget_4 : decode cX11_forget 4 = .ok (.getfield 227, 3) := by decide +kernel
theorem dX11_forget_7 : decode cX11_forget 7 = .ok (.invokevirtual 89, 3) := by decide +kernel
theorem dX11_forget_10 : decode cX11_forget 10 = .ok (.istore_n 1, 1) := by decide +kernel
theorem dX11_forget_11 : decode cX11_forget 11 = .ok (.aload_n 0, 1) := by decide +kernel
theorem dX11_forget_12 : decode cX11_forget 12 = .ok (.getfield 34, 3) := by decide +kernel
theorem dX11_forget_15 : decode cX11_forget 15 = .ok (.getfield 227, 3) := by decide +kernel
theorem dX11_forget_18 : decode cX11_forget 18 = .ok (.invokevirtual 233, 3) := by decide +kernel
theorem dX11_forget_21 : decode cX11_forget 21 = .ok (.iload_n 1, 1) := by decide +kernel
theorem dX11_forget_22 : decode cX11_forget 22 = .ok (.ireturn, 1) := by decide +kernel
set_option maxRecDepth 20000 in
theorem iw_k_x_forget_X11 : ∀ w ∈ wsX110, w ∈ wsX11_forget := by decide +kernel
set_option maxRecDepth 20000 in
theorem iw_k_x_forget_X0 : ∀ w ∈ wsX00, w ∈ wsX11_forget := by decide +kernel
set_option maxHeartbeats 4000000 in
set_option maxRecDepth 100000 in
theorem k_x_forget (l : Launch) (dC : Nat → ClassId) (dI : Nat → Nat → Nat) (o : Nat) (aw : Nat) (bk : Nat) (ai : Nat) (ak : Nat) (sc : Nat) (rd : Nat) (fo : Nat) (tx : Nat) (ar : Nat) (atr : Nat) (ao : Nat) (rk0 : Nat) (rk1 : Nat) (rk2 : Nat) (rk3 : Nat) (eak : Nat) (cak3 : Nat) (sz : Nat) : Met l yX11_forget wsX11_forget ({ frames := 1, cells := 0, slots := 0, locals := 20 }) (va_Pc [.ref o] (fun U => U.heap.size = sz ∧ va_P (dC, dI) vwCl [(o, .inr (11, [.ref aw, .ref bk, .ref ai, .ref ak, .ref sc, .ref rd, .ref fo, .ref tx, .int 0, .ref ar, .ref atr, .ref ao])), (bk, .inr (0, [.ref rk0, .ref rk1, .ref rk2, .ref rk3, .ref eak, .int 0])), (rk3, .inr (6, [.int 4, .int 6, .ref cak3, .int 0]))] U.heap ∧ va_K (dC, dI) vwCl [] U ∧ va_D (fun _ => True) [(o, .inr (11, [.ref aw, .ref bk, .ref ai, .ref ak, .ref sc, .ref rd, .ref fo, .ref tx, .int 0, .ref ar, .ref atr, .ref ao])), (bk, .inr (0, [.ref rk0, .ref rk1, .ref rk2, .ref rk3, .ref eak, .int 0])), (rk3, .inr (6, [.int 4, .int 6, .ref cak3, .int 0]))])) (va_Qi (fun (r : Int32) (_ : Unit) => r = 0) (fun _ _ => True) (va_A [(o, .inr (11, [.ref aw, .ref bk, .ref ai, .ref ak, .ref sc, .ref rd, .ref fo, .ref tx, .int 0, .ref ar, .ref atr, .ref ao])), (bk, .inr (0, [.ref rk0, .ref rk1, .ref rk2, .ref rk3, .ref eak, .int 0])), (rk3, .inr (6, [.int 4, .int 6, .ref cak3, .int 0]))] sz)) 0 0 (va_A [(o, .inr (11, [.ref aw, .ref bk, .ref ai, .ref ak, .ref sc, .ref rd, .ref fo, .ref tx, .int 0, .ref ar, .ref atr, .ref ao])), (bk, .inr (0, [.ref rk0, .ref rk1, .ref rk2, .ref rk3, .ref eak, .int 0])), (rk3, .inr (6, [.int 4, .int 6, .ref cak3, .int 0]))] sz) := by
  refine Met.ofW (cc := cX11_forget) (maxL := 2) (ret := (some .int)) (by decide) rfl ?_
  intro p e s m args below meth c s₁ B hml hv
  obtain ⟨rfl, hsz, hP, hK, hD0⟩ := hv
  have hx := B.exec
  have hb := B.bytes
  have hr := B.returns
  have hts := atoms_spec (ws := wsX11_forget) B.pre
  have hown : s.vm.findClass RX11 = some m.cls := findClass_of_methodNamed B.named
  have hlocks := B.notSynchronized
  subst hsz
  have hD := hD0.self (sz := s.heap.size)
  generalize hAe : va_A [(o, .inr (11, [.ref aw, .ref bk, .ref ai, .ref ak, .ref sc, .ref rd, .ref fo, .ref tx, .int 0, .ref ar, .ref atr, .ref ao])), (bk, .inr (0, [.ref rk0, .ref rk1, .ref rk2, .ref rk3, .ref eak, .int 0])), (rk3, .inr (6, [.int 4, .int 6, .ref cak3, .int 0]))] s.heap.size = A at hD ⊢
  have hA : ∀ q : Nat, s.heap.size ≤ q → A q := fun q h => by rw [← hAe]; exact Or.inr h
  have hS : va_S A s.heap s.heap [] := va_S.rf
  have hP : va_P (dC, dI) vwCl [(o, .inr (11, [.ref aw, .ref bk, .ref ai, .ref ak, .ref sc, .ref rd, .ref fo, .ref tx, .int 0, .ref ar, .ref atr, .ref ao])), (bk, .inr (0, [.ref rk0, .ref rk1, .ref rk2, .ref rk3, .ref eak, .int 0])), (rk3, .inr (6, [.int 4, .int 6, .ref cak3, .int 0]))] s.heap := hP
  have hl := lv_entry ([.ref o]) (n := 2) (Nat.le_of_ble_eq_true rfl)
  rw [lg_entry_eq]
  generalize (lg_sl ([.ref o]) ++ List.replicate (2 - (lg_sl ([.ref o])).length) Slot.unset).toArray = ls at hl ⊢
  have hl : lv_has ls 2 [(0, .ref o)] := hl
  refine lv_aload_n hx hb dX11_forget_0 rfl (lv_at hl 0 rfl) ?_
  refine va_get (D := (dC, dI)) (ci := 11) (v := .ref bk) (C := RX11) (T := TX11) (N := 12) hx hb hts iw_k_x_forget_X11 hown hK hP 0 rfl rfl 1 (by decide) (hts (.fieldLink RX11 34 "ThriceCounted" "bank" "LThriceCounted$Bank;") (by decide +kernel)) (fun _ h9 => h9) rfl dX11_forget_1 ?_
  refine va_get (D := (dC, dI)) (ci := 0) (v := .ref rk3) (C := RX0) (T := TX0) (N := 6) hx hb hts iw_k_x_forget_X0 hown hK hP 1 rfl rfl 3 (by decide) (hts (.fieldLink RX11 227 "ThriceCounted$Bank" "causes" "LThriceCounted$Rows;") (by decide +kernel)) (fun _ h9 => h9) rfl dX11_forget_4 ?_
  have hPc_1 := hP.sub (ws' := [(rk3, .inr (6, [.int 4, .int 6, .ref cak3, .int 0]))]) [2] rfl
  have hKc_2 := hK.sub (tys' := []) [] rfl
  refine vp_callSi (va_Run.run (va_runV (As := []) (rest := []) ⟨hx, hb, hml, hown, hts⟩ (k_size l dC dI rk3 (.int 4) (.int 6) (.ref cak3) 0) (cwV 0 hts gX11_forget_X6_size rfl rfl rfl (by decide +kernel) ⟨Nat.le_of_ble_eq_true rfl, Nat.le_of_ble_eq_true rfl⟩) ⟨fun a U g mk q => by obtain ⟨q0, qP, qK⟩ := q; exact ⟨q0, qP, va_K.moved (u := U) (U := U.calling g mk a) (Vm.Alike.refl U.vm) qK⟩, va_recv hK hP (ci := 6) (q0 := 2) rfl rfl, fun U hU hW => ⟨rfl, by rw [hU]; exact hPc_1, va_K.moved hW.alike hKc_2⟩⟩ rfl rfl hl.1 rfl (lv_room (Nat.le_of_ble_eq_true rfl)) dX11_forget_7 ⟨Nat.le_of_ble_eq_true rfl, Nat.le_of_ble_eq_true rfl⟩)) (fun r_3 hw_4 => ?_)
  obtain rfl : 0 = r_3 := hw_4.symm
  refine lv_istore_n (lv' := [(1, .int 0), (0, .ref o)]) hx hb dX11_forget_10 rfl hl (by decide) rfl (fun ls hl => ?_)
  refine lv_aload_n hx hb dX11_forget_11 rfl (lv_at hl 1 rfl) ?_
  refine va_get (D := (dC, dI)) (ci := 11) (v := .ref bk) (C := RX11) (T := TX11) (N := 12) hx hb hts iw_k_x_forget_X11 hown hK hP 0 rfl rfl 1 (by decide) (hts (.fieldLink RX11 34 "ThriceCounted" "bank" "LThriceCounted$Bank;") (by decide +kernel)) (fun _ h9 => h9) rfl dX11_forget_12 ?_
  refine va_get (D := (dC, dI)) (ci := 0) (v := .ref rk3) (C := RX0) (T := TX0) (N := 6) hx hb hts iw_k_x_forget_X0 hown hK hP 1 rfl rfl 3 (by decide) (hts (.fieldLink RX11 227 "ThriceCounted$Bank" "causes" "LThriceCounted$Rows;") (by decide +kernel)) (fun _ h9 => h9) rfl dX11_forget_15 ?_
  have hPc := hP.sub (ws' := [(rk3, .inr (6, [.int 4, .int 6, .ref cak3, .int 0]))]) [2] rfl
  have hDc := hD.sub (ws' := [(rk3, .inr (6, [.int 4, .int 6, .ref cak3, .int 0]))]) [2] (by decide) rfl
  have hKc := hK.sub (tys' := []) [] rfl
  have hFc := va_free (wc := [(rk3, .inr (6, [.int 4, .int 6, .ref cak3, .int 0]))]) hD hS hA [2] rfl
  refine va_callv (va_runV (As := []) (rest := []) ⟨hx, hb, hml, hown, hts⟩ (k_empty l dC dI rk3 (.int 4) (.int 6) (.ref cak3) (.int 0) s.heap.size) (cwV 0 hts gX11_forget_X6_empty rfl rfl rfl (by decide +kernel) ⟨Nat.le_of_ble_eq_true rfl, Nat.le_of_ble_eq_true rfl⟩) ⟨fun a U g mk q => by obtain ⟨q0, q1, qP, qK, qD⟩ := q; exact ⟨q0, q1, qP, va_K.moved (u := U) (U := U.calling g mk a) (Vm.Alike.refl U.vm) qK, qD⟩, va_recv hK hP (ci := 6) (q0 := 2) rfl rfl, fun U hU hW => ⟨rfl, by rw [hU], by rw [hU]; exact hPc, va_K.moved hW.alike hKc, hDc.weaken (fun _ _ _ _ => trivial)⟩⟩ rfl rfl hl.1 rfl (lv_room (Nat.le_of_ble_eq_true rfl)) dX11_forget_18 ⟨Nat.le_of_ble_eq_true rfl, Nat.le_of_ble_eq_true rfl⟩) hS (fun q _ h => hFc q h) hFc (fun u_ t H1 locs ht hvm hw_6 hB hz1 hk1 hS => ?_)
  obtain ⟨hP, hD⟩ := va_join (wr := [(o, .inr (11, [.ref aw, .ref bk, .ref ai, .ref ak, .ref sc, .ref rd, .ref fo, .ref tx, .int 0, .ref ar, .ref atr, .ref ao])), (bk, .inr (0, [.ref rk0, .ref rk1, .ref rk2, .ref rk3, .ref eak, .int 0]))]) (w1 := []) hP hD [2] [0, 1] rfl rfl (by decide) (by decide) hk1 hFc tz_P0 tz_D0
  generalize H1 = H at hP hS ⊢
  have hP : va_P (dC, dI) vwCl [(o, .inr (11, [.ref aw, .ref bk, .ref ai, .ref ak, .ref sc, .ref rd, .ref fo, .ref tx, .int 0, .ref ar, .ref atr, .ref ao])), (bk, .inr (0, [.ref rk0, .ref rk1, .ref rk2, .ref rk3, .ref eak, .int 0]))] H := hP
  have hD : va_D A [(o, .inr (11, [.ref aw, .ref bk, .ref ai, .ref ak, .ref sc, .ref rd, .ref fo, .ref tx, .int 0, .ref ar, .ref atr, .ref ao])), (bk, .inr (0, [.ref rk0, .ref rk1, .ref rk2, .ref rk3, .ref eak, .int 0]))] := hD
  refine lv_iload_n hx hb dX11_forget_21 rfl (lv_at hl 0 rfl) ?_
  exact W.iret (v := 0) hx hb hr (fun t ht hW => ⟨⟨0, (), rfl, rfl, trivial⟩, hS.F ht⟩) hS.2.2 dX11_forget_22
