set_option maxRecDepth 20000 in
theorem ggX11_way_X11_isWay : GoodIn wsX11_way wsX11_isWay := goodIn_r _ [6, 1, 86, 87, 88, 89, 90, 91, 92, 93, 94, 95, 96, 97] (by decide +kernel) (by decide +kernel)
set_option maxRecDepth 20000 in
theorem gX11_way_X11_isWay : GoodIn wsX11_way (wsV RX11 135 RX11 yX11_isWay wsX11_isWay) := goodIn_app (goodIn_of _ (by decide +kernel)) ggX11_way_X11_isWay
set_option maxRecDepth 20000 in
theorem ggX11_way_X11_within : GoodIn wsX11_way wsX11_within := goodIn_r _ [9] (by decide +kernel) (by decide +kernel)
set_option maxRecDepth 20000 in
theorem gX11_way_X11_within : GoodIn wsX11_way (va_wsS RX11 102 yX11_within wsX11_within) := goodIn_app (goodIn_of _ (by decide +kernel)) ggX11_way_X11_within
set_option maxRecDepth 20000 in
theorem ggX11_way_X4_oddsOff : GoodIn wsX11_way wsX4_oddsOff := goodIn_r _ [77, 78, 16, 17, 18, 19, 20, 21, 22, 23, 24, 25, 26, 27, 28, 29, 30, 31, 32, 33, 34, 35, 36, 79, 38, 39, 40, 41, 42, 43, 44, 45, 46, 47, 48, 49, 50, 51, 52] (by decide +kernel) (by decide +kernel)
set_option maxRecDepth 20000 in
theorem gX11_way_X4_oddsOff : GoodIn wsX11_way (wsV RX11 181 RX4 yX4_oddsOff wsX4_oddsOff) := goodIn_app (goodIn_of _ (by decide +kernel)) ggX11_way_X4_oddsOff
set_option maxRecDepth 20000 in
theorem ggX11_way_X4_minutes : GoodIn wsX11_way wsX4_minutes := goodIn_r _ [61] (by decide +kernel) (by decide +kernel)
set_option maxRecDepth 20000 in
theorem gX11_way_X4_minutes : GoodIn wsX11_way (wsV RX11 178 RX4 yX4_minutes wsX4_minutes) := goodIn_app (goodIn_of _ (by decide +kernel)) ggX11_way_X4_minutes
set_option maxRecDepth 20000 in
theorem ggX11_way_X4_slip : GoodIn wsX11_way wsX4_slip := goodIn_r _ [26] (by decide +kernel) (by decide +kernel)
set_option maxRecDepth 20000 in
theorem gX11_way_X4_slip : GoodIn wsX11_way (wsV RX11 175 RX4 yX4_slip wsX4_slip) := goodIn_app (goodIn_of _ (by decide +kernel)) ggX11_way_X4_slip
set_option maxRecDepth 20000 in
theorem gX11_way_X4_oddsOff_u181X1 : GoodIn wsX11_way (va_wsU RX11 181 RX1 "ThriceCounted$Ones" ⟨"ThriceCounted$Ones", "oddsOff", "(I)I"⟩ yX4_oddsOff wsX4_oddsOff) := goodIn_app (goodIn_of _ (by decide +kernel)) ggX11_way_X4_oddsOff
set_option maxRecDepth 20000 in
theorem ggX11_way_X1_minutes : GoodIn wsX11_way wsX1_minutes := goodIn_r _ [58, 59, 54, 23, 60, 25, 61] (by decide +kernel) (by decide +kernel)
set_option maxRecDepth 20000 in
theorem gX11_way_X1_minutes_u178X1 : GoodIn wsX11_way (va_wsO RX11 178 RX1 "ThriceCounted$Ones" ⟨"ThriceCounted$Ones", "minutes", "()I"⟩ yX1_minutes wsX1_minutes) := goodIn_app (goodIn_of _ (by decide +kernel)) ggX11_way_X1_minutes
set_option maxRecDepth 20000 in
theorem ggX11_way_X1_slip : GoodIn wsX11_way wsX1_slip := goodIn_r _ [21, 22, 16, 23, 24, 25, 26] (by decide +kernel) (by decide +kernel)
set_option maxRecDepth 20000 in
theorem gX11_way_X1_slip_u175X1 : GoodIn wsX11_way (va_wsO RX11 175 RX1 "ThriceCounted$Ones" ⟨"ThriceCounted$Ones", "slip", "(I)I"⟩ yX1_slip wsX1_slip) := goodIn_app (goodIn_of _ (by decide +kernel)) ggX11_way_X1_slip
set_option maxRecDepth 20000 in
theorem gX11_way_X4_oddsOff_u181X10 : GoodIn wsX11_way (va_wsU RX11 181 RX10 "ThriceCounted$Ones" ⟨"ThriceCounted$Ones", "oddsOff", "(I)I"⟩ yX4_oddsOff wsX4_oddsOff) := goodIn_app (goodIn_of _ (by decide +kernel)) ggX11_way_X4_oddsOff
set_option maxRecDepth 20000 in
theorem ggX11_way_X10_minutes : GoodIn wsX11_way wsX10_minutes := goodIn_r _ [64] (by decide +kernel) (by decide +kernel)
set_option maxRecDepth 20000 in
theorem gX11_way_X10_minutes_u178X10 : GoodIn wsX11_way (va_wsO RX11 178 RX10 "ThriceCounted$Ones" ⟨"ThriceCounted$Ones", "minutes", "()I"⟩ yX10_minutes wsX10_minutes) := goodIn_app (goodIn_of _ (by decide +kernel)) ggX11_way_X10_minutes
set_option maxRecDepth 20000 in
theorem ggX11_way_X10_slip : GoodIn wsX11_way wsX10_slip := goodIn_r _ [36] (by decide +kernel) (by decide +kernel)
set_option maxRecDepth 20000 in
theorem gX11_way_X10_slip_u175X10 : GoodIn wsX11_way (va_wsO RX11 175 RX10 "ThriceCounted$Ones" ⟨"ThriceCounted$Ones", "slip", "(I)I"⟩ yX10_slip wsX10_slip) := goodIn_app (goodIn_of _ (by decide +kernel)) ggX11_way_X10_slip
set_option maxRecDepth 20000 in
theorem gX11_way_X4_oddsOff_u181X3 : GoodIn wsX11_way (va_wsU RX11 181 RX3 "ThriceCounted$Ones" ⟨"ThriceCounted$Ones", "oddsOff", "(I)I"⟩ yX4_oddsOff wsX4_oddsOff) := goodIn_app (goodIn_of _ (by decide +kernel)) ggX11_way_X4_oddsOff
set_option maxRecDepth 20000 in
theorem gX11_way_X10_minutes_u178X3 : GoodIn wsX11_way (va_wsO RX11 178 RX3 "ThriceCounted$Ones" ⟨"ThriceCounted$Ones", "minutes", "()I"⟩ yX10_minutes wsX10_minutes) := goodIn_app (goodIn_of _ (by decide +kernel)) ggX11_way_X10_minutes
set_option maxRecDepth 20000 in
theorem ggX11_way_X3_slip : GoodIn wsX11_way wsX3_slip := goodIn_r _ [30, 31, 32, 33, 34, 35, 36] (by decide +kernel) (by decide +kernel)
set_option maxRecDepth 20000 in
theorem gX11_way_X3_slip_u175X3 : GoodIn wsX11_way (va_wsO RX11 175 RX3 "ThriceCounted$Ones" ⟨"ThriceCounted$Ones", "slip", "(I)I"⟩ yX3_slip wsX3_slip) := goodIn_app (goodIn_of _ (by decide +kernel)) ggX11_way_X3_slip
set_option maxRecDepth 20000 in
theorem gX11_way_X4_oddsOff_u181X9 : GoodIn wsX11_way (va_wsU RX11 181 RX9 "ThriceCounted$Ones" ⟨"ThriceCounted$Ones", "oddsOff", "(I)I"⟩ yX4_oddsOff wsX4_oddsOff) := goodIn_app (goodIn_of _ (by decide +kernel)) ggX11_way_X4_oddsOff
set_option maxRecDepth 20000 in
theorem ggX11_way_X9_minutes : GoodIn wsX11_way wsX9_minutes := goodIn_r _ [69, 70, 54, 50, 60, 25, 61] (by decide +kernel) (by decide +kernel)
set_option maxRecDepth 20000 in
theorem gX11_way_X9_minutes_u178X9 : GoodIn wsX11_way (va_wsO RX11 178 RX9 "ThriceCounted$Ones" ⟨"ThriceCounted$Ones", "minutes", "()I"⟩ yX9_minutes wsX9_minutes) := goodIn_app (goodIn_of _ (by decide +kernel)) ggX11_way_X9_minutes
set_option maxRecDepth 20000 in
theorem ggX11_way_X9_slip : GoodIn wsX11_way wsX9_slip := goodIn_r _ [48, 49, 16, 50, 24, 25, 26] (by decide +kernel) (by decide +kernel)
set_option maxRecDepth 20000 in
theorem gX11_way_X9_slip_u175X9 : GoodIn wsX11_way (va_wsO RX11 175 RX9 "ThriceCounted$Ones" ⟨"ThriceCounted$Ones", "slip", "(I)I"⟩ yX9_slip wsX9_slip) := goodIn_app (goodIn_of _ (by decide +kernel)) ggX11_way_X9_slip
set_option maxRecDepth 20000 in
theorem gX11_way_X4_oddsOff_u181X8 : GoodIn wsX11_way (va_wsU RX11 181 RX8 "ThriceCounted$Ones" ⟨"ThriceCounted$Ones", "oddsOff", "(I)I"⟩ yX4_oddsOff wsX4_oddsOff) := goodIn_app (goodIn_of _ (by decide +kernel)) ggX11_way_X4_oddsOff
set_option maxRecDepth 20000 in
theorem gX11_way_X9_minutes_u178X8 : GoodIn wsX11_way (va_wsO RX11 178 RX8 "ThriceCounted$Ones" ⟨"ThriceCounted$Ones", "minutes", "()I"⟩ yX9_minutes wsX9_minutes) := goodIn_app (goodIn_of _ (by decide +kernel)) ggX11_way_X9_minutes
set_option maxRecDepth 20000 in
theorem ggX11_way_X8_slip : GoodIn wsX11_way wsX8_slip := goodIn_r _ [42, 43, 44, 45, 46, 47, 48, 49, 16, 50, 24, 25, 26] (by decide +kernel) (by decide +kernel)
set_option maxRecDepth 20000 in
theorem gX11_way_X8_slip_u175X8 : GoodIn wsX11_way (va_wsO RX11 175 RX8 "ThriceCounted$Ones" ⟨"ThriceCounted$Ones", "slip", "(I)I"⟩ yX8_slip wsX8_slip) := goodIn_app (goodIn_of _ (by decide +kernel)) ggX11_way_X8_slip
set_option maxRecDepth 20000 in
theorem ggX11_way_X11_refuseAs : GoodIn wsX11_way wsX11_refuseAs := goodIn_r _ [13, 14, 86, 87, 88, 89, 90, 91, 92, 93, 94, 95, 96, 97] (by decide +kernel) (by decide +kernel)
set_option maxRecDepth 20000 in
theorem gX11_way_X11_refuseAs : GoodIn wsX11_way (wsV RX11 172 RX11 yX11_refuseAs wsX11_refuseAs) := goodIn_app (goodIn_of _ (by decide +kernel)) ggX11_way_X11_refuseAs
theorem dX11_way_0 : decode cX11_way 0 = .ok (.aload_n 0, 1) := by decide +kernel
theorem dX11_way_1 : decode cX11_way 1 = .ok (.iload_n 1, 1) := by decide +kernel
theorem dX11_way_2 : decode cX11_way 2 = .ok (.invokevirtual 135, 3) := by decide +kernel
theorem dX11_way_5 : decode cX11_way 5 = .ok (.ifCond .eq 13, 3) := by decide +kernel
theorem dX11_way_8 : decode cX11_way 8 = .ok (.iload_n 2, 1) := by decide +kernel
theorem dX11_way_9 : decode cX11_way 9 = .ok (.iconst 0, 1) := by decide +kernel
theorem dX11_way_10 : decode cX11_way 10 = .ok (.bipush 21, 2) := by decide +kernel
theorem dX11_way_12 : decode cX11_way 12 = .ok (.invokestatic 102, 3) := by decide +kernel
theorem dX11_way_15 : decode cX11_way 15 = .ok (.ifCond .ne 12, 3) := by decide +kernel
theorem dX11_way_27 : decode cX11_way 27 = .ok (.iload_n 2, 1) := by decide +kernel
theorem dX11_way_28 : decode cX11_way 28 = .ok (.bipush 20, 2) := by decide +kernel
theorem dX11_way_30 : decode cX11_way 30 = .ok (.if_icmp .ge 14, 3) := by decide +kernel
theorem dX11_way_44 : decode cX11_way 44 = .ok (.iload_n 2, 1) := by decide +kernel
theorem dX11_way_45 : decode cX11_way 45 = .ok (.bipush 20, 2) := by decide +kernel
theorem dX11_way_47 : decode cX11_way 47 = .ok (.if_icmp .ne 15, 3) := by decide +kernel
theorem dX11_way_62 : decode cX11_way 62 = .ok (.aload_n 0, 1) := by decide +kernel
theorem dX11_way_63 : decode cX11_way 63 = .ok (.getfield 25, 3) := by decide +kernel
theorem dX11_way_66 : decode cX11_way 66 = .ok (.iload_n 1, 1) := by decide +kernel
theorem dX11_way_67 : decode cX11_way 67 = .ok (.aaload, 1) := by decide +kernel
theorem dX11_way_68 : decode cX11_way 68 = .ok (.iconst 0, 1) := by decide +kernel
theorem dX11_way_69 : decode cX11_way 69 = .ok (.invokevirtual 181, 3) := by decide +kernel
theorem dX11_way_72 : decode cX11_way 72 = .ok (.ireturn, 1) := by decide +kernel
theorem dX11_way_50 : decode cX11_way 50 = .ok (.aload_n 0, 1) := by decide +kernel
theorem dX11_way_51 : decode cX11_way 51 = .ok (.getfield 25, 3) := by decide +kernel
theorem dX11_way_54 : decode cX11_way 54 = .ok (.iload_n 1, 1) := by decide +kernel
theorem dX11_way_55 : decode cX11_way 55 = .ok (.aaload, 1) := by decide +kernel
theorem dX11_way_56 : decode cX11_way 56 = .ok (.invokevirtual 178, 3) := by decide +kernel
theorem dX11_way_59 : decode cX11_way 59 = .ok (.goto 13, 3) := by decide +kernel
theorem dX11_way_33 : decode cX11_way 33 = .ok (.aload_n 0, 1) := by decide +kernel
theorem dX11_way_34 : decode cX11_way 34 = .ok (.getfield 25, 3) := by decide +kernel
theorem dX11_way_37 : decode cX11_way 37 = .ok (.iload_n 1, 1) := by decide +kernel
theorem dX11_way_38 : decode cX11_way 38 = .ok (.aaload, 1) := by decide +kernel
theorem dX11_way_39 : decode cX11_way 39 = .ok (.iload_n 2, 1) := by decide +kernel
theorem dX11_way_40 : decode cX11_way 40 = .ok (.invokevirtual 175, 3) := by decide +kernel
theorem dX11_way_43 : decode cX11_way 43 = .ok (.ireturn, 1) := by decide +kernel
theorem dX11_way_18 : decode cX11_way 18 = .ok (.aload_n 0, 1) := by decide +kernel
theorem dX11_way_19 : decode cX11_way 19 = .ok (.bipush (-2), 2) := by decide +kernel
theorem dX11_way_21 : decode cX11_way 21 = .ok (.bipush (-100), 2) := by decide +kernel
theorem dX11_way_23 : decode cX11_way 23 = .ok (.invokevirtual 172, 3) := by decide +kernel
theorem dX11_way_26 : decode cX11_way 26 = .ok (.ireturn, 1) := by decide +kernel
set_option maxRecDepth 20000 in
theorem iw_k_x_way_X11 : ∀ w ∈ wsX110, w ∈ wsX11_way := by decide +kernel
set_option maxHeartbeats 4000000 in
set_option maxRecDepth 100000 in
theorem k_x_way (l : Launch) (dC : Nat → ClassId) (dI : Nat → Nat → Nat) (o : Nat) (aw : Nat) (bk : Nat) (ai : Nat) (ak : Nat) (sc : Nat) (rd : Nat) (fo : Nat) (tx : Nat) (ar : Nat) (atr : Nat) (ao : Nat) (cw : ClassId) (w0 : Nat) (w1 : Nat) (w2 : Nat) (w3 : Nat) (w4 : Nat) (w5 : Nat) (cr : ClassId) (na : Int32) (nb : Int32) (sz : Nat) : Met l yX11_way wsX11_way ({ frames := 4, cells := 0, slots := 0, locals := 86 }) (va_Pc [.ref o, .int na, .int nb] (fun U => U.heap.size = sz ∧ va_P (dC, dI) vwCl [(o, .inr (11, [.ref aw, .ref bk, .ref ai, .ref ak, .ref sc, .ref rd, .ref fo, .ref tx, .int 0, .ref ar, .ref atr, .ref ao])), (aw, .inl (cw, 6, .inr (.inr (.inr (.inr (tz_w w0 w1 w2 w3 w4 w5)))))), (w0, .inr (4, [])), (w1, .inr (1, [])), (w2, .inr (10, [])), (w3, .inr (3, [])), (w4, .inr (9, [])), (w5, .inr (8, [])), (ar, .inl (cr, 3, .inl (fun _ => 0)))] U.heap ∧ va_K (dC, dI) vwCl [(cw, (.object "ThriceCounted$Ones")), (cr, .int)] U ∧ va_D (fun _ => True) [(o, .inr (11, [.ref aw, .ref bk, .ref ai, .ref ak, .ref sc, .ref rd, .ref fo, .ref tx, .int 0, .ref ar, .ref atr, .ref ao])), (aw, .inl (cw, 6, .inr (.inr (.inr (.inr (tz_w w0 w1 w2 w3 w4 w5)))))), (w0, .inr (4, [])), (w1, .inr (1, [])), (w2, .inr (10, [])), (w3, .inr (3, [])), (w4, .inr (9, [])), (w5, .inr (8, [])), (ar, .inl (cr, 3, .inl (fun _ => 0)))])) (va_Qi (fun (r : Int32) (_ : Unit) => r = (if 0 ≤ na ∧ na ≤ 5 then (if 0 ≤ nb ∧ nb ≤ 21 then (if 20 ≤ nb then (if nb = 20 then zM na else zN (zS na) 0 20) else zS na nb) else (-100)) else (-100))) (fun _ _ => True) (va_A [(o, .inr (11, [.ref aw, .ref bk, .ref ai, .ref ak, .ref sc, .ref rd, .ref fo, .ref tx, .int 0, .ref ar, .ref atr, .ref ao])), (aw, .inl (cw, 6, .inr (.inr (.inr (.inr (tz_w w0 w1 w2 w3 w4 w5)))))), (w0, .inr (4, [])), (w1, .inr (1, [])), (w2, .inr (10, [])), (w3, .inr (3, [])), (w4, .inr (9, [])), (w5, .inr (8, [])), (ar, .inl (cr, 3, .inl (fun _ => 0)))] sz)) 0 0 (va_A [(o, .inr (11, [.ref aw, .ref bk, .ref ai, .ref ak, .ref sc, .ref rd, .ref fo, .ref tx, .int 0, .ref ar, .ref atr, .ref ao])), (aw, .inl (cw, 6, .inr (.inr (.inr (.inr (tz_w w0 w1 w2 w3 w4 w5)))))), (w0, .inr (4, [])), (w1, .inr (1, [])), (w2, .inr (10, [])), (w3, .inr (3, [])), (w4, .inr (9, [])), (w5, .inr (8, [])), (ar, .inl (cr, 3, .inl (fun _ => 0)))] sz) := by
  refine Met.ofW (cc := cX11_way) (maxL := 3) (ret := (some .int)) (by decide) rfl ?_
  intro p e s m args below meth c s₁ B hml hv
  obtain ⟨rfl, hsz, hP, hK, hD0⟩ := hv
  have hx := B.exec
  have hb := B.bytes
  have hr := B.returns
  have hts := atoms_spec (ws := wsX11_way) B.pre
  have hown : s.vm.findClass RX11 = some m.cls := findClass_of_methodNamed B.named
  have hlocks := B.notSynchronized
  subst hsz
  have hD := hD0.self (sz := s.heap.size)
  generalize hAe : va_A [(o, .inr (11, [.ref aw, .ref bk, .ref ai, .ref ak, .ref sc, .ref rd, .ref fo, .ref tx, .int 0, .ref ar, .ref atr, .ref ao])), (aw, .inl (cw, 6, .inr (.inr (.inr (.inr (tz_w w0 w1 w2 w3 w4 w5)))))), (w0, .inr (4, [])), (w1, .inr (1, [])), (w2, .inr (10, [])), (w3, .inr (3, [])), (w4, .inr (9, [])), (w5, .inr (8, [])), (ar, .inl (cr, 3, .inl (fun _ => 0)))] s.heap.size = A at hD ⊢
  have hA : ∀ q : Nat, s.heap.size ≤ q → A q := fun q h => by rw [← hAe]; exact Or.inr h
  have hS : va_S A s.heap s.heap [] := va_S.rf
  have hP : va_P (dC, dI) vwCl [(o, .inr (11, [.ref aw, .ref bk, .ref ai, .ref ak, .ref sc, .ref rd, .ref fo, .ref tx, .int 0, .ref ar, .ref atr, .ref ao])), (aw, .inl (cw, 6, .inr (.inr (.inr (.inr (tz_w w0 w1 w2 w3 w4 w5)))))), (w0, .inr (4, [])), (w1, .inr (1, [])), (w2, .inr (10, [])), (w3, .inr (3, [])), (w4, .inr (9, [])), (w5, .inr (8, [])), (ar, .inl (cr, 3, .inl (fun _ => 0)))] s.heap := hP
  have hl := lv_entry ([.ref o, .int na, .int nb]) (n := 3) (Nat.le_of_ble_eq_true rfl)
  rw [lg_entry_eq]
  generalize (lg_sl ([.ref o, .int na, .int nb]) ++ List.replicate (3 - (lg_sl ([.ref o, .int na, .int nb])).length) Slot.unset).toArray = ls at hl ⊢
  have hl : lv_has ls 3 [(0, .ref o), (1, .int na), (2, .int nb)] := hl
  refine lv_aload_n hx hb dX11_way_0 rfl (lv_at hl 0 rfl) ?_
  refine lv_iload_n hx hb dX11_way_1 rfl (lv_at hl 1 rfl) ?_
  have hPc_1 := hP.sub (ws' := [(o, .inr (11, [.ref aw, .ref bk, .ref ai, .ref ak, .ref sc, .ref rd, .ref fo, .ref tx, .int 0, .ref ar, .ref atr, .ref ao])), (aw, .inl (cw, 6, .inr (.inr (.inr (.inr (tz_w w0 w1 w2 w3 w4 w5))))))]) [0, 1] rfl
  have hKc_2 := hK.sub (tys' := [(cw, (.object "ThriceCounted$Ones"))]) [0] rfl
  refine vp_callSi (va_Run.run (va_runV (As := [.int na]) (rest := []) ⟨hx, hb, hml, hown, hts⟩ (k_isWay l dC dI o aw (.ref bk) (.ref ai) (.ref ak) (.ref sc) (.ref rd) (.ref fo) (.ref tx) (.int 0) (.ref ar) (.ref atr) (.ref ao) cw w0 w1 w2 w3 w4 w5 na) (cwV 1 hts gX11_way_X11_isWay rfl rfl rfl (by decide +kernel) ⟨Nat.le_of_ble_eq_true rfl, Nat.le_of_ble_eq_true rfl⟩) ⟨fun a U g mk q => by obtain ⟨q0, qP, qK⟩ := q; exact ⟨q0, qP, va_K.moved (u := U) (U := U.calling g mk a) (Vm.Alike.refl U.vm) qK⟩, va_recv hK hP (ci := 11) (q0 := 0) rfl rfl, fun U hU hW => ⟨rfl, by rw [hU]; exact hPc_1, va_K.moved hW.alike hKc_2⟩⟩ rfl rfl hl.1 rfl (lv_room (Nat.le_of_ble_eq_true rfl)) dX11_way_2 ⟨Nat.le_of_ble_eq_true rfl, Nat.le_of_ble_eq_true rfl⟩)) (fun r_3 hw_4 => ?_)
  by_cases hc_5 : 0 ≤ na ∧ na ≤ 5
  · obtain rfl : 1 = r_3 := (hw_4.trans (if_pos hc_5)).symm
    refine lv_if_eq (tgt := 18) hx hb dX11_way_5 (by decide) (fun c_6 => ?_) (fun c_6 => ?_)
    · exact absurd c_6 (by decide)
    · refine lv_iload_n hx hb dX11_way_8 rfl (lv_at hl 2 rfl) ?_
      refine lv_iconst (v := 0) hx hb dX11_way_9 (by decide) ?_
      refine lv_bipush (v := 21) hx hb dX11_way_10 (by decide) ?_
      refine vp_callSi (va_Run.run (va_runS (As := [.int nb, .int 0, .int 21]) (rest := []) ⟨hx, hb, hml, hown, hts⟩ (k_within l dC dI nb 0 21) (va_cwS 3 hts gX11_way_X11_within rfl rfl rfl (by decide +kernel) ⟨Nat.le_of_ble_eq_true rfl, Nat.le_of_ble_eq_true rfl⟩) ⟨fun a U g mk q => ⟨q.1, trivial⟩, fun U hU hW => ⟨rfl, trivial⟩⟩ rfl rfl hl.1 rfl (lv_room (Nat.le_of_ble_eq_true rfl)) dX11_way_12 ⟨Nat.le_of_ble_eq_true rfl, Nat.le_of_ble_eq_true rfl⟩)) (fun r_7 hw_8 => ?_)
      by_cases hc_9 : 0 ≤ nb ∧ nb ≤ 21
      · obtain rfl : 1 = r_7 := (hw_8.trans (if_pos hc_9)).symm
        refine lv_if_ne (tgt := 27) hx hb dX11_way_15 (by decide) (fun c_10 => ?_) (fun c_10 => ?_)
        · rcases (tz_six hc_5) with rfl | rfl | rfl | rfl | rfl | rfl
          · refine lv_iload_n hx hb dX11_way_27 rfl (lv_at hl 2 rfl) ?_
            refine lv_bipush (v := 20) hx hb dX11_way_28 (by decide) ?_
            refine lv_icmp_ge (tgt := 44) hx hb dX11_way_30 (by decide) (fun c_11 => ?_) (fun c_11 => ?_)
            · refine lv_iload_n hx hb dX11_way_44 rfl (lv_at hl 2 rfl) ?_
              refine lv_bipush (v := 20) hx hb dX11_way_45 (by decide) ?_
              refine lv_icmp_ne (tgt := 62) hx hb dX11_way_47 (by decide) (fun c_12 => ?_) (fun c_12 => ?_)
              · refine lv_aload_n hx hb dX11_way_62 rfl (lv_at hl 0 rfl) ?_
                refine va_get (D := (dC, dI)) (ci := 11) (v := .ref aw) (C := RX11) (T := TX11) (N := 12) hx hb hts iw_k_x_way_X11 hown hK hP 0 rfl rfl 0 (by decide) (hts (.fieldLink RX11 25 "ThriceCounted" "ways" "[LThriceCounted$Ones;") (by decide +kernel)) (fun _ h9 => h9) rfl dX11_way_63 ?_
                refine lv_iload_n hx hb dX11_way_66 rfl (lv_at hl 1 rfl) ?_
                refine va_aldq hx hb hK hP 1 0 rfl rfl (show ¬ ((0 : Int32) < 0 ∨ 6 ≤ (0 : Int32).toNatClampNeg) by decide) dX11_way_67 ?_
                refine tz_v (.ref w0) rfl ?_
                refine lv_iconst (v := 0) hx hb dX11_way_68 (by decide) ?_
                have hPc_13 := hP.sub (ws' := [(w0, .inr (4, []))]) [2] rfl
                have hKc_14 := hK.sub (tys' := []) [] rfl
                refine vp_callSi (va_Run.run (va_runV (As := [.int 0]) (rest := []) ⟨hx, hb, hml, hown, hts⟩ (k_odds_X4 l dC dI w0 0) (cwV 1 hts gX11_way_X4_oddsOff rfl rfl rfl (by decide +kernel) ⟨Nat.le_of_ble_eq_true rfl, Nat.le_of_ble_eq_true rfl⟩) ⟨fun a U g mk q => by obtain ⟨q0, qP, qK⟩ := q; exact ⟨q0, qP, va_K.moved (u := U) (U := U.calling g mk a) (Vm.Alike.refl U.vm) qK⟩, va_recv hK hP (ci := 4) (q0 := 2) rfl rfl, fun U hU hW => ⟨rfl, by rw [hU]; exact hPc_13, va_K.moved hW.alike hKc_14⟩⟩ rfl rfl hl.1 rfl (lv_room (Nat.le_of_ble_eq_true rfl)) dX11_way_69 ⟨Nat.le_of_ble_eq_true rfl, Nat.le_of_ble_eq_true rfl⟩)) (fun r_15 hw_16 => ?_)
                obtain rfl : (zN zO 0 20) = r_15 := hw_16.symm
                exact W.iret (v := (zN zO 0 20)) hx hb hr (fun t ht hW => ⟨⟨(zN zO 0 20), (), rfl, ((if_pos hc_5).trans ((if_pos hc_9).trans ((if_pos c_11).trans (if_neg c_12)))).symm, trivial⟩, hS.F ht⟩) hS.2.2 dX11_way_72
              · refine lv_aload_n hx hb dX11_way_50 rfl (lv_at hl 0 rfl) ?_
                refine va_get (D := (dC, dI)) (ci := 11) (v := .ref aw) (C := RX11) (T := TX11) (N := 12) hx hb hts iw_k_x_way_X11 hown hK hP 0 rfl rfl 0 (by decide) (hts (.fieldLink RX11 25 "ThriceCounted" "ways" "[LThriceCounted$Ones;") (by decide +kernel)) (fun _ h9 => h9) rfl dX11_way_51 ?_
                refine lv_iload_n hx hb dX11_way_54 rfl (lv_at hl 1 rfl) ?_
                refine va_aldq hx hb hK hP 1 0 rfl rfl (show ¬ ((0 : Int32) < 0 ∨ 6 ≤ (0 : Int32).toNatClampNeg) by decide) dX11_way_55 ?_
                refine tz_v (.ref w0) rfl ?_
                refine vp_callSi (va_Run.run (va_runV (As := []) (rest := []) ⟨hx, hb, hml, hown, hts⟩ (k_min_X4 l dC dI w0) (cwV 0 hts gX11_way_X4_minutes rfl rfl rfl (by decide +kernel) ⟨Nat.le_of_ble_eq_true rfl, Nat.le_of_ble_eq_true rfl⟩) ⟨fun a U g mk q => ⟨q.1, trivial⟩, va_recv hK hP (ci := 4) (q0 := 2) rfl rfl, fun U hU hW => ⟨rfl, trivial⟩⟩ rfl rfl hl.1 rfl (lv_room (Nat.le_of_ble_eq_true rfl)) dX11_way_56 ⟨Nat.le_of_ble_eq_true rfl, Nat.le_of_ble_eq_true rfl⟩)) (fun r_17 hw_18 => ?_)
                obtain rfl : 5 = r_17 := hw_18.symm
                refine lv_goto (tgt := 72) hx hb dX11_way_59 (by decide) ?_
                exact W.iret (v := 5) hx hb hr (fun t ht hW => ⟨⟨5, (), rfl, ((if_pos hc_5).trans ((if_pos hc_9).trans ((if_pos c_11).trans (if_pos c_12)))).symm, trivial⟩, hS.F ht⟩) hS.2.2 dX11_way_72
            · refine lv_aload_n hx hb dX11_way_33 rfl (lv_at hl 0 rfl) ?_
              refine va_get (D := (dC, dI)) (ci := 11) (v := .ref aw) (C := RX11) (T := TX11) (N := 12) hx hb hts iw_k_x_way_X11 hown hK hP 0 rfl rfl 0 (by decide) (hts (.fieldLink RX11 25 "ThriceCounted" "ways" "[LThriceCounted$Ones;") (by decide +kernel)) (fun _ h9 => h9) rfl dX11_way_34 ?_
              refine lv_iload_n hx hb dX11_way_37 rfl (lv_at hl 1 rfl) ?_
              refine va_aldq hx hb hK hP 1 0 rfl rfl (show ¬ ((0 : Int32) < 0 ∨ 6 ≤ (0 : Int32).toNatClampNeg) by decide) dX11_way_38 ?_
              refine tz_v (.ref w0) rfl ?_
              refine lv_iload_n hx hb dX11_way_39 rfl (lv_at hl 2 rfl) ?_
              refine vp_callSi (va_Run.run (va_runV (As := [.int nb]) (rest := []) ⟨hx, hb, hml, hown, hts⟩ (k_slip_X4 l dC dI w0 nb) (cwV 1 hts gX11_way_X4_slip rfl rfl rfl (by decide +kernel) ⟨Nat.le_of_ble_eq_true rfl, Nat.le_of_ble_eq_true rfl⟩) ⟨fun a U g mk q => ⟨q.1, trivial⟩, va_recv hK hP (ci := 4) (q0 := 2) rfl rfl, fun U hU hW => ⟨rfl, trivial⟩⟩ rfl rfl hl.1 rfl (lv_room (Nat.le_of_ble_eq_true rfl)) dX11_way_40 ⟨Nat.le_of_ble_eq_true rfl, Nat.le_of_ble_eq_true rfl⟩)) (fun r_19 hw_20 => ?_)
              obtain rfl : (zO nb) = r_19 := hw_20.symm
              exact W.iret (v := (zO nb)) hx hb hr (fun t ht hW => ⟨⟨(zO nb), (), rfl, ((if_pos hc_5).trans ((if_pos hc_9).trans (if_neg c_11))).symm, trivial⟩, hS.F ht⟩) hS.2.2 dX11_way_43
          · refine lv_iload_n hx hb dX11_way_27 rfl (lv_at hl 2 rfl) ?_
            refine lv_bipush (v := 20) hx hb dX11_way_28 (by decide) ?_
            refine lv_icmp_ge (tgt := 44) hx hb dX11_way_30 (by decide) (fun c_21 => ?_) (fun c_21 => ?_)
            · refine lv_iload_n hx hb dX11_way_44 rfl (lv_at hl 2 rfl) ?_
              refine lv_bipush (v := 20) hx hb dX11_way_45 (by decide) ?_
              refine lv_icmp_ne (tgt := 62) hx hb dX11_way_47 (by decide) (fun c_22 => ?_) (fun c_22 => ?_)
              · refine lv_aload_n hx hb dX11_way_62 rfl (lv_at hl 0 rfl) ?_
                refine va_get (D := (dC, dI)) (ci := 11) (v := .ref aw) (C := RX11) (T := TX11) (N := 12) hx hb hts iw_k_x_way_X11 hown hK hP 0 rfl rfl 0 (by decide) (hts (.fieldLink RX11 25 "ThriceCounted" "ways" "[LThriceCounted$Ones;") (by decide +kernel)) (fun _ h9 => h9) rfl dX11_way_63 ?_
                refine lv_iload_n hx hb dX11_way_66 rfl (lv_at hl 1 rfl) ?_
                refine va_aldq hx hb hK hP 1 0 rfl rfl (show ¬ ((1 : Int32) < 0 ∨ 6 ≤ (1 : Int32).toNatClampNeg) by decide) dX11_way_67 ?_
                refine tz_v (.ref w1) rfl ?_
                refine lv_iconst (v := 0) hx hb dX11_way_68 (by decide) ?_
                have hPc_23 := hP.sub (ws' := [(w1, .inr (1, []))]) [3] rfl
                have hKc_24 := hK.sub (tys' := []) [] rfl
                refine vp_callSi (va_Run.run (va_runU (C := RX1) (As := [.int 0]) (rest := []) ⟨hx, hb, hml, hown, hts⟩ (k_odds_X1 l dC dI w1 0) (va_cwU 1 hts gX11_way_X4_oddsOff_u181X1 rfl rfl rfl rfl (by decide +kernel) ⟨Nat.le_of_ble_eq_true rfl, Nat.le_of_ble_eq_true rfl⟩) ⟨fun a U g mk q => by obtain ⟨q0, qP, qK⟩ := q; exact ⟨q0, qP, va_K.moved (u := U) (U := U.calling g mk a) (Vm.Alike.refl U.vm) qK⟩, va_recv hK hP (ci := 1) (q0 := 3) rfl rfl, fun U hU hW => ⟨rfl, by rw [hU]; exact hPc_23, va_K.moved hW.alike hKc_24⟩⟩ rfl rfl hl.1 rfl (lv_room (Nat.le_of_ble_eq_true rfl)) dX11_way_69 ⟨Nat.le_of_ble_eq_true rfl, Nat.le_of_ble_eq_true rfl⟩)) (fun r_25 hw_26 => ?_)
                obtain rfl : (zN zF 0 20) = r_25 := hw_26.symm
                exact W.iret (v := (zN zF 0 20)) hx hb hr (fun t ht hW => ⟨⟨(zN zF 0 20), (), rfl, ((if_pos hc_5).trans ((if_pos hc_9).trans ((if_pos c_21).trans (if_neg c_22)))).symm, trivial⟩, hS.F ht⟩) hS.2.2 dX11_way_72
              · refine lv_aload_n hx hb dX11_way_50 rfl (lv_at hl 0 rfl) ?_
                refine va_get (D := (dC, dI)) (ci := 11) (v := .ref aw) (C := RX11) (T := TX11) (N := 12) hx hb hts iw_k_x_way_X11 hown hK hP 0 rfl rfl 0 (by decide) (hts (.fieldLink RX11 25 "ThriceCounted" "ways" "[LThriceCounted$Ones;") (by decide +kernel)) (fun _ h9 => h9) rfl dX11_way_51 ?_
                refine lv_iload_n hx hb dX11_way_54 rfl (lv_at hl 1 rfl) ?_
                refine va_aldq hx hb hK hP 1 0 rfl rfl (show ¬ ((1 : Int32) < 0 ∨ 6 ≤ (1 : Int32).toNatClampNeg) by decide) dX11_way_55 ?_
                refine tz_v (.ref w1) rfl ?_
                have hPc_27 := hP.sub (ws' := [(w1, .inr (1, []))]) [3] rfl
                have hKc_28 := hK.sub (tys' := []) [] rfl
                refine vp_callSi (va_Run.run (va_runU (C := RX1) (As := []) (rest := []) ⟨hx, hb, hml, hown, hts⟩ (k_min_X1 l dC dI w1) (va_cwO 0 hts gX11_way_X1_minutes_u178X1 rfl rfl rfl (b0 := cX4_minutes) (m0 := 1) (r0 := (some .int)) (by decide +kernel) (by decide +kernel) ⟨Nat.le_of_ble_eq_true rfl, Nat.le_of_ble_eq_true rfl⟩) ⟨fun a U g mk q => by obtain ⟨q0, qP, qK⟩ := q; exact ⟨q0, qP, va_K.moved (u := U) (U := U.calling g mk a) (Vm.Alike.refl U.vm) qK⟩, va_recv hK hP (ci := 1) (q0 := 3) rfl rfl, fun U hU hW => ⟨rfl, by rw [hU]; exact hPc_27, va_K.moved hW.alike hKc_28⟩⟩ rfl rfl hl.1 rfl (lv_room (Nat.le_of_ble_eq_true rfl)) dX11_way_56 ⟨Nat.le_of_ble_eq_true rfl, Nat.le_of_ble_eq_true rfl⟩)) (fun r_29 hw_30 => ?_)
                obtain rfl : 3 = r_29 := hw_30.symm
                refine lv_goto (tgt := 72) hx hb dX11_way_59 (by decide) ?_
                exact W.iret (v := 3) hx hb hr (fun t ht hW => ⟨⟨3, (), rfl, ((if_pos hc_5).trans ((if_pos hc_9).trans ((if_pos c_21).trans (if_pos c_22)))).symm, trivial⟩, hS.F ht⟩) hS.2.2 dX11_way_72
            · refine lv_aload_n hx hb dX11_way_33 rfl (lv_at hl 0 rfl) ?_
              refine va_get (D := (dC, dI)) (ci := 11) (v := .ref aw) (C := RX11) (T := TX11) (N := 12) hx hb hts iw_k_x_way_X11 hown hK hP 0 rfl rfl 0 (by decide) (hts (.fieldLink RX11 25 "ThriceCounted" "ways" "[LThriceCounted$Ones;") (by decide +kernel)) (fun _ h9 => h9) rfl dX11_way_34 ?_
              refine lv_iload_n hx hb dX11_way_37 rfl (lv_at hl 1 rfl) ?_
              refine va_aldq hx hb hK hP 1 0 rfl rfl (show ¬ ((1 : Int32) < 0 ∨ 6 ≤ (1 : Int32).toNatClampNeg) by decide) dX11_way_38 ?_
              refine tz_v (.ref w1) rfl ?_
              refine lv_iload_n hx hb dX11_way_39 rfl (lv_at hl 2 rfl) ?_
              have hPc_31 := hP.sub (ws' := [(w1, .inr (1, []))]) [3] rfl
              have hKc_32 := hK.sub (tys' := []) [] rfl
              refine vp_callSi (va_Run.run (va_runU (C := RX1) (As := [.int nb]) (rest := []) ⟨hx, hb, hml, hown, hts⟩ (k_slip_X1 l dC dI w1 nb) (va_cwO 1 hts gX11_way_X1_slip_u175X1 rfl rfl rfl (b0 := cX4_slip) (m0 := 2) (r0 := (some .int)) (by decide +kernel) (by decide +kernel) ⟨Nat.le_of_ble_eq_true rfl, Nat.le_of_ble_eq_true rfl⟩) ⟨fun a U g mk q => by obtain ⟨q0, qP, qK⟩ := q; exact ⟨q0, qP, va_K.moved (u := U) (U := U.calling g mk a) (Vm.Alike.refl U.vm) qK⟩, va_recv hK hP (ci := 1) (q0 := 3) rfl rfl, fun U hU hW => ⟨rfl, by rw [hU]; exact hPc_31, va_K.moved hW.alike hKc_32⟩⟩ rfl rfl hl.1 rfl (lv_room (Nat.le_of_ble_eq_true rfl)) dX11_way_40 ⟨Nat.le_of_ble_eq_true rfl, Nat.le_of_ble_eq_true rfl⟩)) (fun r_33 hw_34 => ?_)
              obtain rfl : (zF nb) = r_33 := hw_34.symm
              exact W.iret (v := (zF nb)) hx hb hr (fun t ht hW => ⟨⟨(zF nb), (), rfl, ((if_pos hc_5).trans ((if_pos hc_9).trans (if_neg c_21))).symm, trivial⟩, hS.F ht⟩) hS.2.2 dX11_way_43
          · refine lv_iload_n hx hb dX11_way_27 rfl (lv_at hl 2 rfl) ?_
            refine lv_bipush (v := 20) hx hb dX11_way_28 (by decide) ?_
            refine lv_icmp_ge (tgt := 44) hx hb dX11_way_30 (by decide) (fun c_35 => ?_) (fun c_35 => ?_)
            · refine lv_iload_n hx hb dX11_way_44 rfl (lv_at hl 2 rfl) ?_
              refine lv_bipush (v := 20) hx hb dX11_way_45 (by decide) ?_
              refine lv_icmp_ne (tgt := 62) hx hb dX11_way_47 (by decide) (fun c_36 => ?_) (fun c_36 => ?_)
              · refine lv_aload_n hx hb dX11_way_62 rfl (lv_at hl 0 rfl) ?_
                refine va_get (D := (dC, dI)) (ci := 11) (v := .ref aw) (C := RX11) (T := TX11) (N := 12) hx hb hts iw_k_x_way_X11 hown hK hP 0 rfl rfl 0 (by decide) (hts (.fieldLink RX11 25 "ThriceCounted" "ways" "[LThriceCounted$Ones;") (by decide +kernel)) (fun _ h9 => h9) rfl dX11_way_63 ?_
                refine lv_iload_n hx hb dX11_way_66 rfl (lv_at hl 1 rfl) ?_
                refine va_aldq hx hb hK hP 1 0 rfl rfl (show ¬ ((2 : Int32) < 0 ∨ 6 ≤ (2 : Int32).toNatClampNeg) by decide) dX11_way_67 ?_
                refine tz_v (.ref w2) rfl ?_
                refine lv_iconst (v := 0) hx hb dX11_way_68 (by decide) ?_
                have hPc_37 := hP.sub (ws' := [(w2, .inr (10, []))]) [4] rfl
                have hKc_38 := hK.sub (tys' := []) [] rfl
                refine vp_callSi (va_Run.run (va_runU (C := RX10) (As := [.int 0]) (rest := []) ⟨hx, hb, hml, hown, hts⟩ (k_odds_X10 l dC dI w2 0) (va_cwU 1 hts gX11_way_X4_oddsOff_u181X10 rfl rfl rfl rfl (by decide +kernel) ⟨Nat.le_of_ble_eq_true rfl, Nat.le_of_ble_eq_true rfl⟩) ⟨fun a U g mk q => by obtain ⟨q0, qP, qK⟩ := q; exact ⟨q0, qP, va_K.moved (u := U) (U := U.calling g mk a) (Vm.Alike.refl U.vm) qK⟩, va_recv hK hP (ci := 10) (q0 := 4) rfl rfl, fun U hU hW => ⟨rfl, by rw [hU]; exact hPc_37, va_K.moved hW.alike hKc_38⟩⟩ rfl rfl hl.1 rfl (lv_room (Nat.le_of_ble_eq_true rfl)) dX11_way_69 ⟨Nat.le_of_ble_eq_true rfl, Nat.le_of_ble_eq_true rfl⟩)) (fun r_39 hw_40 => ?_)
                obtain rfl : (zN zW 0 20) = r_39 := hw_40.symm
                exact W.iret (v := (zN zW 0 20)) hx hb hr (fun t ht hW => ⟨⟨(zN zW 0 20), (), rfl, ((if_pos hc_5).trans ((if_pos hc_9).trans ((if_pos c_35).trans (if_neg c_36)))).symm, trivial⟩, hS.F ht⟩) hS.2.2 dX11_way_72
              · refine lv_aload_n hx hb dX11_way_50 rfl (lv_at hl 0 rfl) ?_
                refine va_get (D := (dC, dI)) (ci := 11) (v := .ref aw) (C := RX11) (T := TX11) (N := 12) hx hb hts iw_k_x_way_X11 hown hK hP 0 rfl rfl 0 (by decide) (hts (.fieldLink RX11 25 "ThriceCounted" "ways" "[LThriceCounted$Ones;") (by decide +kernel)) (fun _ h9 => h9) rfl dX11_way_51 ?_
                refine lv_iload_n hx hb dX11_way_54 rfl (lv_at hl 1 rfl) ?_
                refine va_aldq hx hb hK hP 1 0 rfl rfl (show ¬ ((2 : Int32) < 0 ∨ 6 ≤ (2 : Int32).toNatClampNeg) by decide) dX11_way_55 ?_
                refine tz_v (.ref w2) rfl ?_
                refine vp_callSi (va_Run.run (va_runU (C := RX10) (As := []) (rest := []) ⟨hx, hb, hml, hown, hts⟩ (k_min_X10 l dC dI w2) (va_cwO 0 hts gX11_way_X10_minutes_u178X10 rfl rfl rfl (b0 := cX4_minutes) (m0 := 1) (r0 := (some .int)) (by decide +kernel) (by decide +kernel) ⟨Nat.le_of_ble_eq_true rfl, Nat.le_of_ble_eq_true rfl⟩) ⟨fun a U g mk q => ⟨q.1, trivial⟩, va_recv hK hP (ci := 10) (q0 := 4) rfl rfl, fun U hU hW => ⟨rfl, trivial⟩⟩ rfl rfl hl.1 rfl (lv_room (Nat.le_of_ble_eq_true rfl)) dX11_way_56 ⟨Nat.le_of_ble_eq_true rfl, Nat.le_of_ble_eq_true rfl⟩)) (fun r_41 hw_42 => ?_)
                obtain rfl : 1 = r_41 := hw_42.symm
                refine lv_goto (tgt := 72) hx hb dX11_way_59 (by decide) ?_
                exact W.iret (v := 1) hx hb hr (fun t ht hW => ⟨⟨1, (), rfl, ((if_pos hc_5).trans ((if_pos hc_9).trans ((if_pos c_35).trans (if_pos c_36)))).symm, trivial⟩, hS.F ht⟩) hS.2.2 dX11_way_72
            · refine lv_aload_n hx hb dX11_way_33 rfl (lv_at hl 0 rfl) ?_
              refine va_get (D := (dC, dI)) (ci := 11) (v := .ref aw) (C := RX11) (T := TX11) (N := 12) hx hb hts iw_k_x_way_X11 hown hK hP 0 rfl rfl 0 (by decide) (hts (.fieldLink RX11 25 "ThriceCounted" "ways" "[LThriceCounted$Ones;") (by decide +kernel)) (fun _ h9 => h9) rfl dX11_way_34 ?_
              refine lv_iload_n hx hb dX11_way_37 rfl (lv_at hl 1 rfl) ?_
              refine va_aldq hx hb hK hP 1 0 rfl rfl (show ¬ ((2 : Int32) < 0 ∨ 6 ≤ (2 : Int32).toNatClampNeg) by decide) dX11_way_38 ?_
              refine tz_v (.ref w2) rfl ?_
              refine lv_iload_n hx hb dX11_way_39 rfl (lv_at hl 2 rfl) ?_
              refine vp_callSi (va_Run.run (va_runU (C := RX10) (As := [.int nb]) (rest := []) ⟨hx, hb, hml, hown, hts⟩ (k_slip_X10 l dC dI w2 nb) (va_cwO 1 hts gX11_way_X10_slip_u175X10 rfl rfl rfl (b0 := cX4_slip) (m0 := 2) (r0 := (some .int)) (by decide +kernel) (by decide +kernel) ⟨Nat.le_of_ble_eq_true rfl, Nat.le_of_ble_eq_true rfl⟩) ⟨fun a U g mk q => ⟨q.1, trivial⟩, va_recv hK hP (ci := 10) (q0 := 4) rfl rfl, fun U hU hW => ⟨rfl, trivial⟩⟩ rfl rfl hl.1 rfl (lv_room (Nat.le_of_ble_eq_true rfl)) dX11_way_40 ⟨Nat.le_of_ble_eq_true rfl, Nat.le_of_ble_eq_true rfl⟩)) (fun r_43 hw_44 => ?_)
              obtain rfl : (zW nb) = r_43 := hw_44.symm
              exact W.iret (v := (zW nb)) hx hb hr (fun t ht hW => ⟨⟨(zW nb), (), rfl, ((if_pos hc_5).trans ((if_pos hc_9).trans (if_neg c_35))).symm, trivial⟩, hS.F ht⟩) hS.2.2 dX11_way_43
          · refine lv_iload_n hx hb dX11_way_27 rfl (lv_at hl 2 rfl) ?_
            refine lv_bipush (v := 20) hx hb dX11_way_28 (by decide) ?_
            refine lv_icmp_ge (tgt := 44) hx hb dX11_way_30 (by decide) (fun c_45 => ?_) (fun c_45 => ?_)
            · refine lv_iload_n hx hb dX11_way_44 rfl (lv_at hl 2 rfl) ?_
              refine lv_bipush (v := 20) hx hb dX11_way_45 (by decide) ?_
              refine lv_icmp_ne (tgt := 62) hx hb dX11_way_47 (by decide) (fun c_46 => ?_) (fun c_46 => ?_)
              · refine lv_aload_n hx hb dX11_way_62 rfl (lv_at hl 0 rfl) ?_
                refine va_get (D := (dC, dI)) (ci := 11) (v := .ref aw) (C := RX11) (T := TX11) (N := 12) hx hb hts iw_k_x_way_X11 hown hK hP 0 rfl rfl 0 (by decide) (hts (.fieldLink RX11 25 "ThriceCounted" "ways" "[LThriceCounted$Ones;") (by decide +kernel)) (fun _ h9 => h9) rfl dX11_way_63 ?_
                refine lv_iload_n hx hb dX11_way_66 rfl (lv_at hl 1 rfl) ?_
                refine va_aldq hx hb hK hP 1 0 rfl rfl (show ¬ ((3 : Int32) < 0 ∨ 6 ≤ (3 : Int32).toNatClampNeg) by decide) dX11_way_67 ?_
                refine tz_v (.ref w3) rfl ?_
                refine lv_iconst (v := 0) hx hb dX11_way_68 (by decide) ?_
                have hPc_47 := hP.sub (ws' := [(w3, .inr (3, []))]) [5] rfl
                have hKc_48 := hK.sub (tys' := []) [] rfl
                refine vp_callSi (va_Run.run (va_runU (C := RX3) (As := [.int 0]) (rest := []) ⟨hx, hb, hml, hown, hts⟩ (k_odds_X3 l dC dI w3 0) (va_cwU 1 hts gX11_way_X4_oddsOff_u181X3 rfl rfl rfl rfl (by decide +kernel) ⟨Nat.le_of_ble_eq_true rfl, Nat.le_of_ble_eq_true rfl⟩) ⟨fun a U g mk q => by obtain ⟨q0, qP, qK⟩ := q; exact ⟨q0, qP, va_K.moved (u := U) (U := U.calling g mk a) (Vm.Alike.refl U.vm) qK⟩, va_recv hK hP (ci := 3) (q0 := 5) rfl rfl, fun U hU hW => ⟨rfl, by rw [hU]; exact hPc_47, va_K.moved hW.alike hKc_48⟩⟩ rfl rfl hl.1 rfl (lv_room (Nat.le_of_ble_eq_true rfl)) dX11_way_69 ⟨Nat.le_of_ble_eq_true rfl, Nat.le_of_ble_eq_true rfl⟩)) (fun r_49 hw_50 => ?_)
                obtain rfl : (zN zH 0 20) = r_49 := hw_50.symm
                exact W.iret (v := (zN zH 0 20)) hx hb hr (fun t ht hW => ⟨⟨(zN zH 0 20), (), rfl, ((if_pos hc_5).trans ((if_pos hc_9).trans ((if_pos c_45).trans (if_neg c_46)))).symm, trivial⟩, hS.F ht⟩) hS.2.2 dX11_way_72
              · refine lv_aload_n hx hb dX11_way_50 rfl (lv_at hl 0 rfl) ?_
                refine va_get (D := (dC, dI)) (ci := 11) (v := .ref aw) (C := RX11) (T := TX11) (N := 12) hx hb hts iw_k_x_way_X11 hown hK hP 0 rfl rfl 0 (by decide) (hts (.fieldLink RX11 25 "ThriceCounted" "ways" "[LThriceCounted$Ones;") (by decide +kernel)) (fun _ h9 => h9) rfl dX11_way_51 ?_
                refine lv_iload_n hx hb dX11_way_54 rfl (lv_at hl 1 rfl) ?_
                refine va_aldq hx hb hK hP 1 0 rfl rfl (show ¬ ((3 : Int32) < 0 ∨ 6 ≤ (3 : Int32).toNatClampNeg) by decide) dX11_way_55 ?_
                refine tz_v (.ref w3) rfl ?_
                refine vp_callSi (va_Run.run (va_runU (C := RX3) (As := []) (rest := []) ⟨hx, hb, hml, hown, hts⟩ (k_min_X10 l dC dI w3) (va_cwO 0 hts gX11_way_X10_minutes_u178X3 rfl rfl rfl (b0 := cX4_minutes) (m0 := 1) (r0 := (some .int)) (by decide +kernel) (by decide +kernel) ⟨Nat.le_of_ble_eq_true rfl, Nat.le_of_ble_eq_true rfl⟩) ⟨fun a U g mk q => ⟨q.1, trivial⟩, va_recv hK hP (ci := 3) (q0 := 5) rfl rfl, fun U hU hW => ⟨rfl, trivial⟩⟩ rfl rfl hl.1 rfl (lv_room (Nat.le_of_ble_eq_true rfl)) dX11_way_56 ⟨Nat.le_of_ble_eq_true rfl, Nat.le_of_ble_eq_true rfl⟩)) (fun r_51 hw_52 => ?_)
                obtain rfl : 1 = r_51 := hw_52.symm
                refine lv_goto (tgt := 72) hx hb dX11_way_59 (by decide) ?_
                exact W.iret (v := 1) hx hb hr (fun t ht hW => ⟨⟨1, (), rfl, ((if_pos hc_5).trans ((if_pos hc_9).trans ((if_pos c_45).trans (if_pos c_46)))).symm, trivial⟩, hS.F ht⟩) hS.2.2 dX11_way_72
            · refine lv_aload_n hx hb dX11_way_33 rfl (lv_at hl 0 rfl) ?_
              refine va_get (D := (dC, dI)) (ci := 11) (v := .ref aw) (C := RX11) (T := TX11) (N := 12) hx hb hts iw_k_x_way_X11 hown hK hP 0 rfl rfl 0 (by decide) (hts (.fieldLink RX11 25 "ThriceCounted" "ways" "[LThriceCounted$Ones;") (by decide +kernel)) (fun _ h9 => h9) rfl dX11_way_34 ?_
              refine lv_iload_n hx hb dX11_way_37 rfl (lv_at hl 1 rfl) ?_
              refine va_aldq hx hb hK hP 1 0 rfl rfl (show ¬ ((3 : Int32) < 0 ∨ 6 ≤ (3 : Int32).toNatClampNeg) by decide) dX11_way_38 ?_
              refine tz_v (.ref w3) rfl ?_
              refine lv_iload_n hx hb dX11_way_39 rfl (lv_at hl 2 rfl) ?_
              have hPc_53 := hP.sub (ws' := [(w3, .inr (3, []))]) [5] rfl
              have hKc_54 := hK.sub (tys' := []) [] rfl
              refine vp_callSi (va_Run.run (va_runU (C := RX3) (As := [.int nb]) (rest := []) ⟨hx, hb, hml, hown, hts⟩ (k_slip_X3 l dC dI w3 nb) (va_cwO 1 hts gX11_way_X3_slip_u175X3 rfl rfl rfl (b0 := cX4_slip) (m0 := 2) (r0 := (some .int)) (by decide +kernel) (by decide +kernel) ⟨Nat.le_of_ble_eq_true rfl, Nat.le_of_ble_eq_true rfl⟩) ⟨fun a U g mk q => by obtain ⟨q0, qP, qK⟩ := q; exact ⟨q0, qP, va_K.moved (u := U) (U := U.calling g mk a) (Vm.Alike.refl U.vm) qK⟩, va_recv hK hP (ci := 3) (q0 := 5) rfl rfl, fun U hU hW => ⟨rfl, by rw [hU]; exact hPc_53, va_K.moved hW.alike hKc_54⟩⟩ rfl rfl hl.1 rfl (lv_room (Nat.le_of_ble_eq_true rfl)) dX11_way_40 ⟨Nat.le_of_ble_eq_true rfl, Nat.le_of_ble_eq_true rfl⟩)) (fun r_55 hw_56 => ?_)
              obtain rfl : (zH nb) = r_55 := hw_56.symm
              exact W.iret (v := (zH nb)) hx hb hr (fun t ht hW => ⟨⟨(zH nb), (), rfl, ((if_pos hc_5).trans ((if_pos hc_9).trans (if_neg c_45))).symm, trivial⟩, hS.F ht⟩) hS.2.2 dX11_way_43
          · refine lv_iload_n hx hb dX11_way_27 rfl (lv_at hl 2 rfl) ?_
            refine lv_bipush (v := 20) hx hb dX11_way_28 (by decide) ?_
            refine lv_icmp_ge (tgt := 44) hx hb dX11_way_30 (by decide) (fun c_57 => ?_) (fun c_57 => ?_)
            · refine lv_iload_n hx hb dX11_way_44 rfl (lv_at hl 2 rfl) ?_
              refine lv_bipush (v := 20) hx hb dX11_way_45 (by decide) ?_
              refine lv_icmp_ne (tgt := 62) hx hb dX11_way_47 (by decide) (fun c_58 => ?_) (fun c_58 => ?_)
              · refine lv_aload_n hx hb dX11_way_62 rfl (lv_at hl 0 rfl) ?_
                refine va_get (D := (dC, dI)) (ci := 11) (v := .ref aw) (C := RX11) (T := TX11) (N := 12) hx hb hts iw_k_x_way_X11 hown hK hP 0 rfl rfl 0 (by decide) (hts (.fieldLink RX11 25 "ThriceCounted" "ways" "[LThriceCounted$Ones;") (by decide +kernel)) (fun _ h9 => h9) rfl dX11_way_63 ?_
                refine lv_iload_n hx hb dX11_way_66 rfl (lv_at hl 1 rfl) ?_
                refine va_aldq hx hb hK hP 1 0 rfl rfl (show ¬ ((4 : Int32) < 0 ∨ 6 ≤ (4 : Int32).toNatClampNeg) by decide) dX11_way_67 ?_
                refine tz_v (.ref w4) rfl ?_
                refine lv_iconst (v := 0) hx hb dX11_way_68 (by decide) ?_
                have hPc_59 := hP.sub (ws' := [(w4, .inr (9, []))]) [6] rfl
                have hKc_60 := hK.sub (tys' := []) [] rfl
                refine vp_callSi (va_Run.run (va_runU (C := RX9) (As := [.int 0]) (rest := []) ⟨hx, hb, hml, hown, hts⟩ (k_odds_X9 l dC dI w4 0) (va_cwU 1 hts gX11_way_X4_oddsOff_u181X9 rfl rfl rfl rfl (by decide +kernel) ⟨Nat.le_of_ble_eq_true rfl, Nat.le_of_ble_eq_true rfl⟩) ⟨fun a U g mk q => by obtain ⟨q0, qP, qK⟩ := q; exact ⟨q0, qP, va_K.moved (u := U) (U := U.calling g mk a) (Vm.Alike.refl U.vm) qK⟩, va_recv hK hP (ci := 9) (q0 := 6) rfl rfl, fun U hU hW => ⟨rfl, by rw [hU]; exact hPc_59, va_K.moved hW.alike hKc_60⟩⟩ rfl rfl hl.1 rfl (lv_room (Nat.le_of_ble_eq_true rfl)) dX11_way_69 ⟨Nat.le_of_ble_eq_true rfl, Nat.le_of_ble_eq_true rfl⟩)) (fun r_61 hw_62 => ?_)
                obtain rfl : (zN zT 0 20) = r_61 := hw_62.symm
                exact W.iret (v := (zN zT 0 20)) hx hb hr (fun t ht hW => ⟨⟨(zN zT 0 20), (), rfl, ((if_pos hc_5).trans ((if_pos hc_9).trans ((if_pos c_57).trans (if_neg c_58)))).symm, trivial⟩, hS.F ht⟩) hS.2.2 dX11_way_72
              · refine lv_aload_n hx hb dX11_way_50 rfl (lv_at hl 0 rfl) ?_
                refine va_get (D := (dC, dI)) (ci := 11) (v := .ref aw) (C := RX11) (T := TX11) (N := 12) hx hb hts iw_k_x_way_X11 hown hK hP 0 rfl rfl 0 (by decide) (hts (.fieldLink RX11 25 "ThriceCounted" "ways" "[LThriceCounted$Ones;") (by decide +kernel)) (fun _ h9 => h9) rfl dX11_way_51 ?_
                refine lv_iload_n hx hb dX11_way_54 rfl (lv_at hl 1 rfl) ?_
                refine va_aldq hx hb hK hP 1 0 rfl rfl (show ¬ ((4 : Int32) < 0 ∨ 6 ≤ (4 : Int32).toNatClampNeg) by decide) dX11_way_55 ?_
                refine tz_v (.ref w4) rfl ?_
                have hPc_63 := hP.sub (ws' := [(w4, .inr (9, []))]) [6] rfl
                have hKc_64 := hK.sub (tys' := []) [] rfl
                refine vp_callSi (va_Run.run (va_runU (C := RX9) (As := []) (rest := []) ⟨hx, hb, hml, hown, hts⟩ (k_min_X9 l dC dI w4) (va_cwO 0 hts gX11_way_X9_minutes_u178X9 rfl rfl rfl (b0 := cX4_minutes) (m0 := 1) (r0 := (some .int)) (by decide +kernel) (by decide +kernel) ⟨Nat.le_of_ble_eq_true rfl, Nat.le_of_ble_eq_true rfl⟩) ⟨fun a U g mk q => by obtain ⟨q0, qP, qK⟩ := q; exact ⟨q0, qP, va_K.moved (u := U) (U := U.calling g mk a) (Vm.Alike.refl U.vm) qK⟩, va_recv hK hP (ci := 9) (q0 := 6) rfl rfl, fun U hU hW => ⟨rfl, by rw [hU]; exact hPc_63, va_K.moved hW.alike hKc_64⟩⟩ rfl rfl hl.1 rfl (lv_room (Nat.le_of_ble_eq_true rfl)) dX11_way_56 ⟨Nat.le_of_ble_eq_true rfl, Nat.le_of_ble_eq_true rfl⟩)) (fun r_65 hw_66 => ?_)
                obtain rfl : 7 = r_65 := hw_66.symm
                refine lv_goto (tgt := 72) hx hb dX11_way_59 (by decide) ?_
                exact W.iret (v := 7) hx hb hr (fun t ht hW => ⟨⟨7, (), rfl, ((if_pos hc_5).trans ((if_pos hc_9).trans ((if_pos c_57).trans (if_pos c_58)))).symm, trivial⟩, hS.F ht⟩) hS.2.2 dX11_way_72
            · refine lv_aload_n hx hb dX11_way_33 rfl (lv_at hl 0 rfl) ?_
              refine va_get (D := (dC, dI)) (ci := 11) (v := .ref aw) (C := RX11) (T := TX11) (N := 12) hx hb hts iw_k_x_way_X11 hown hK hP 0 rfl rfl 0 (by decide) (hts (.fieldLink RX11 25 "ThriceCounted" "ways" "[LThriceCounted$Ones;") (by decide +kernel)) (fun _ h9 => h9) rfl dX11_way_34 ?_
              refine lv_iload_n hx hb dX11_way_37 rfl (lv_at hl 1 rfl) ?_
              refine va_aldq hx hb hK hP 1 0 rfl rfl (show ¬ ((4 : Int32) < 0 ∨ 6 ≤ (4 : Int32).toNatClampNeg) by decide) dX11_way_38 ?_
              refine tz_v (.ref w4) rfl ?_
              refine lv_iload_n hx hb dX11_way_39 rfl (lv_at hl 2 rfl) ?_
              have hPc_67 := hP.sub (ws' := [(w4, .inr (9, []))]) [6] rfl
              have hKc_68 := hK.sub (tys' := []) [] rfl
              refine vp_callSi (va_Run.run (va_runU (C := RX9) (As := [.int nb]) (rest := []) ⟨hx, hb, hml, hown, hts⟩ (k_slip_X9 l dC dI w4 nb) (va_cwO 1 hts gX11_way_X9_slip_u175X9 rfl rfl rfl (b0 := cX4_slip) (m0 := 2) (r0 := (some .int)) (by decide +kernel) (by decide +kernel) ⟨Nat.le_of_ble_eq_true rfl, Nat.le_of_ble_eq_true rfl⟩) ⟨fun a U g mk q => by obtain ⟨q0, qP, qK⟩ := q; exact ⟨q0, qP, va_K.moved (u := U) (U := U.calling g mk a) (Vm.Alike.refl U.vm) qK⟩, va_recv hK hP (ci := 9) (q0 := 6) rfl rfl, fun U hU hW => ⟨rfl, by rw [hU]; exact hPc_67, va_K.moved hW.alike hKc_68⟩⟩ rfl rfl hl.1 rfl (lv_room (Nat.le_of_ble_eq_true rfl)) dX11_way_40 ⟨Nat.le_of_ble_eq_true rfl, Nat.le_of_ble_eq_true rfl⟩)) (fun r_69 hw_70 => ?_)
              obtain rfl : (zT nb) = r_69 := hw_70.symm
              exact W.iret (v := (zT nb)) hx hb hr (fun t ht hW => ⟨⟨(zT nb), (), rfl, ((if_pos hc_5).trans ((if_pos hc_9).trans (if_neg c_57))).symm, trivial⟩, hS.F ht⟩) hS.2.2 dX11_way_43
          · refine lv_iload_n hx hb dX11_way_27 rfl (lv_at hl 2 rfl) ?_
            refine lv_bipush (v := 20) hx hb dX11_way_28 (by decide) ?_
            refine lv_icmp_ge (tgt := 44) hx hb dX11_way_30 (by decide) (fun c_71 => ?_) (fun c_71 => ?_)
            · refine lv_iload_n hx hb dX11_way_44 rfl (lv_at hl 2 rfl) ?_
              refine lv_bipush (v := 20) hx hb dX11_way_45 (by decide) ?_
              refine lv_icmp_ne (tgt := 62) hx hb dX11_way_47 (by decide) (fun c_72 => ?_) (fun c_72 => ?_)
              · refine lv_aload_n hx hb dX11_way_62 rfl (lv_at hl 0 rfl) ?_
                refine va_get (D := (dC, dI)) (ci := 11) (v := .ref aw) (C := RX11) (T := TX11) (N := 12) hx hb hts iw_k_x_way_X11 hown hK hP 0 rfl rfl 0 (by decide) (hts (.fieldLink RX11 25 "ThriceCounted" "ways" "[LThriceCounted$Ones;") (by decide +kernel)) (fun _ h9 => h9) rfl dX11_way_63 ?_
                refine lv_iload_n hx hb dX11_way_66 rfl (lv_at hl 1 rfl) ?_
                refine va_aldq hx hb hK hP 1 0 rfl rfl (show ¬ ((5 : Int32) < 0 ∨ 6 ≤ (5 : Int32).toNatClampNeg) by decide) dX11_way_67 ?_
                refine tz_v (.ref w5) rfl ?_
                refine lv_iconst (v := 0) hx hb dX11_way_68 (by decide) ?_
                have hPc_73 := hP.sub (ws' := [(w5, .inr (8, []))]) [7] rfl
                have hKc_74 := hK.sub (tys' := []) [] rfl
                refine vp_callSi (va_Run.run (va_runU (C := RX8) (As := [.int 0]) (rest := []) ⟨hx, hb, hml, hown, hts⟩ (k_odds_X8 l dC dI w5 0) (va_cwU 1 hts gX11_way_X4_oddsOff_u181X8 rfl rfl rfl rfl (by decide +kernel) ⟨Nat.le_of_ble_eq_true rfl, Nat.le_of_ble_eq_true rfl⟩) ⟨fun a U g mk q => by obtain ⟨q0, qP, qK⟩ := q; exact ⟨q0, qP, va_K.moved (u := U) (U := U.calling g mk a) (Vm.Alike.refl U.vm) qK⟩, va_recv hK hP (ci := 8) (q0 := 7) rfl rfl, fun U hU hW => ⟨rfl, by rw [hU]; exact hPc_73, va_K.moved hW.alike hKc_74⟩⟩ rfl rfl hl.1 rfl (lv_room (Nat.le_of_ble_eq_true rfl)) dX11_way_69 ⟨Nat.le_of_ble_eq_true rfl, Nat.le_of_ble_eq_true rfl⟩)) (fun r_75 hw_76 => ?_)
                obtain rfl : (zN zK 0 20) = r_75 := hw_76.symm
                exact W.iret (v := (zN zK 0 20)) hx hb hr (fun t ht hW => ⟨⟨(zN zK 0 20), (), rfl, ((if_pos hc_5).trans ((if_pos hc_9).trans ((if_pos c_71).trans (if_neg c_72)))).symm, trivial⟩, hS.F ht⟩) hS.2.2 dX11_way_72
              · refine lv_aload_n hx hb dX11_way_50 rfl (lv_at hl 0 rfl) ?_
                refine va_get (D := (dC, dI)) (ci := 11) (v := .ref aw) (C := RX11) (T := TX11) (N := 12) hx hb hts iw_k_x_way_X11 hown hK hP 0 rfl rfl 0 (by decide) (hts (.fieldLink RX11 25 "ThriceCounted" "ways" "[LThriceCounted$Ones;") (by decide +kernel)) (fun _ h9 => h9) rfl dX11_way_51 ?_
                refine lv_iload_n hx hb dX11_way_54 rfl (lv_at hl 1 rfl) ?_
                refine va_aldq hx hb hK hP 1 0 rfl rfl (show ¬ ((5 : Int32) < 0 ∨ 6 ≤ (5 : Int32).toNatClampNeg) by decide) dX11_way_55 ?_
                refine tz_v (.ref w5) rfl ?_
                have hPc_77 := hP.sub (ws' := [(w5, .inr (8, []))]) [7] rfl
                have hKc_78 := hK.sub (tys' := []) [] rfl
                refine vp_callSi (va_Run.run (va_runU (C := RX8) (As := []) (rest := []) ⟨hx, hb, hml, hown, hts⟩ (k_min_X8 l dC dI w5) (va_cwO 0 hts gX11_way_X9_minutes_u178X8 rfl rfl rfl (b0 := cX4_minutes) (m0 := 1) (r0 := (some .int)) (by decide +kernel) (by decide +kernel) ⟨Nat.le_of_ble_eq_true rfl, Nat.le_of_ble_eq_true rfl⟩) ⟨fun a U g mk q => by obtain ⟨q0, qP, qK⟩ := q; exact ⟨q0, qP, va_K.moved (u := U) (U := U.calling g mk a) (Vm.Alike.refl U.vm) qK⟩, va_recv hK hP (ci := 8) (q0 := 7) rfl rfl, fun U hU hW => ⟨rfl, by rw [hU]; exact hPc_77, va_K.moved hW.alike hKc_78⟩⟩ rfl rfl hl.1 rfl (lv_room (Nat.le_of_ble_eq_true rfl)) dX11_way_56 ⟨Nat.le_of_ble_eq_true rfl, Nat.le_of_ble_eq_true rfl⟩)) (fun r_79 hw_80 => ?_)
                obtain rfl : 7 = r_79 := hw_80.symm
                refine lv_goto (tgt := 72) hx hb dX11_way_59 (by decide) ?_
                exact W.iret (v := 7) hx hb hr (fun t ht hW => ⟨⟨7, (), rfl, ((if_pos hc_5).trans ((if_pos hc_9).trans ((if_pos c_71).trans (if_pos c_72)))).symm, trivial⟩, hS.F ht⟩) hS.2.2 dX11_way_72
            · refine lv_aload_n hx hb dX11_way_33 rfl (lv_at hl 0 rfl) ?_
              refine va_get (D := (dC, dI)) (ci := 11) (v := .ref aw) (C := RX11) (T := TX11) (N := 12) hx hb hts iw_k_x_way_X11 hown hK hP 0 rfl rfl 0 (by decide) (hts (.fieldLink RX11 25 "ThriceCounted" "ways" "[LThriceCounted$Ones;") (by decide +kernel)) (fun _ h9 => h9) rfl dX11_way_34 ?_
              refine lv_iload_n hx hb dX11_way_37 rfl (lv_at hl 1 rfl) ?_
              refine va_aldq hx hb hK hP 1 0 rfl rfl (show ¬ ((5 : Int32) < 0 ∨ 6 ≤ (5 : Int32).toNatClampNeg) by decide) dX11_way_38 ?_
              refine tz_v (.ref w5) rfl ?_
              refine lv_iload_n hx hb dX11_way_39 rfl (lv_at hl 2 rfl) ?_
              have hPc_81 := hP.sub (ws' := [(w5, .inr (8, []))]) [7] rfl
              have hKc_82 := hK.sub (tys' := []) [] rfl
              refine vp_callSi (va_Run.run (va_runU (C := RX8) (As := [.int nb]) (rest := []) ⟨hx, hb, hml, hown, hts⟩ (k_slip_X8 l dC dI w5 nb) (va_cwO 1 hts gX11_way_X8_slip_u175X8 rfl rfl rfl (b0 := cX4_slip) (m0 := 2) (r0 := (some .int)) (by decide +kernel) (by decide +kernel) ⟨Nat.le_of_ble_eq_true rfl, Nat.le_of_ble_eq_true rfl⟩) ⟨fun a U g mk q => by obtain ⟨q0, qP, qK⟩ := q; exact ⟨q0, qP, va_K.moved (u := U) (U := U.calling g mk a) (Vm.Alike.refl U.vm) qK⟩, va_recv hK hP (ci := 8) (q0 := 7) rfl rfl, fun U hU hW => ⟨rfl, by rw [hU]; exact hPc_81, va_K.moved hW.alike hKc_82⟩⟩ rfl rfl hl.1 rfl (lv_room (Nat.le_of_ble_eq_true rfl)) dX11_way_40 ⟨Nat.le_of_ble_eq_true rfl, Nat.le_of_ble_eq_true rfl⟩)) (fun r_83 hw_84 => ?_)
              obtain rfl : (zK nb) = r_83 := hw_84.symm
              exact W.iret (v := (zK nb)) hx hb hr (fun t ht hW => ⟨⟨(zK nb), (), rfl, ((if_pos hc_5).trans ((if_pos hc_9).trans (if_neg c_71))).symm, trivial⟩, hS.F ht⟩) hS.2.2 dX11_way_43
        · exact absurd c_10 (by decide)
      · obtain rfl : 0 = r_7 := (hw_8.trans (if_neg hc_9)).symm
        refine lv_if_ne (tgt := 27) hx hb dX11_way_15 (by decide) (fun c_85 => ?_) (fun c_85 => ?_)
        · exact absurd c_85 (by decide)
        · refine lv_aload_n hx hb dX11_way_18 rfl (lv_at hl 0 rfl) ?_
          refine lv_bipush (v := (-2)) hx hb dX11_way_19 (by decide) ?_
          refine lv_bipush (v := (-100)) hx hb dX11_way_21 (by decide) ?_
          have hPc := hP.sub (ws' := [(o, .inr (11, [.ref aw, .ref bk, .ref ai, .ref ak, .ref sc, .ref rd, .ref fo, .ref tx, .int 0, .ref ar, .ref atr, .ref ao])), (ar, .inl (cr, 3, .inl (fun _ => 0)))]) [0, 8] rfl
          have hDc := hD.sub (ws' := [(o, .inr (11, [.ref aw, .ref bk, .ref ai, .ref ak, .ref sc, .ref rd, .ref fo, .ref tx, .int 0, .ref ar, .ref atr, .ref ao])), (ar, .inl (cr, 3, .inl (fun _ => 0)))]) [0, 8] (by decide) rfl
          have hKc := hK.sub (tys' := [(cr, .int)]) [1] rfl
          have hFc := va_free (wc := [(o, .inr (11, [.ref aw, .ref bk, .ref ai, .ref ak, .ref sc, .ref rd, .ref fo, .ref tx, .int 0, .ref ar, .ref atr, .ref ao])), (ar, .inl (cr, 3, .inl (fun _ => 0)))]) hD hS hA [0, 8] rfl
          refine va_calli (va_runV (As := [.int (-2), .int (-100)]) (rest := []) ⟨hx, hb, hml, hown, hts⟩ (k_refuseAs l dC dI o (.ref aw) (.ref bk) (.ref ai) (.ref ak) (.ref sc) (.ref rd) (.ref fo) (.ref tx) (.int 0) ar (.ref atr) (.ref ao) cr (fun _ => 0) (-2) (-100) s.heap.size) (cwV 2 hts gX11_way_X11_refuseAs rfl rfl rfl (by decide +kernel) ⟨Nat.le_of_ble_eq_true rfl, Nat.le_of_ble_eq_true rfl⟩) ⟨fun a U g mk q => by obtain ⟨q0, q1, qP, qK, qD⟩ := q; exact ⟨q0, q1, qP, va_K.moved (u := U) (U := U.calling g mk a) (Vm.Alike.refl U.vm) qK, qD⟩, va_recv hK hP (ci := 11) (q0 := 0) rfl rfl, fun U hU hW => ⟨rfl, by rw [hU], by rw [hU]; exact hPc, va_K.moved hW.alike hKc, hDc.weaken (fun _ _ _ _ => trivial)⟩⟩ rfl rfl hl.1 rfl (lv_room (Nat.le_of_ble_eq_true rfl)) dX11_way_23 ⟨Nat.le_of_ble_eq_true rfl, Nat.le_of_ble_eq_true rfl⟩) hS (fun q _ h => hFc q h) hFc (fun r_86 u_ t H1 locs ht hvm hw_87 hB hz1 hk1 hS => ?_)
          obtain ⟨hP, hD⟩ := va_join (wr := [(aw, .inl (cw, 6, .inr (.inr (.inr (.inr (tz_w w0 w1 w2 w3 w4 w5)))))), (w0, .inr (4, [])), (w1, .inr (1, [])), (w2, .inr (10, [])), (w3, .inr (3, [])), (w4, .inr (9, [])), (w5, .inr (8, []))]) (w1 := []) hP hD [0, 8] [1, 2, 3, 4, 5, 6, 7] rfl rfl (by decide) (by decide) hk1 hFc tz_P0 tz_D0
          generalize H1 = H at hP hS ⊢
          have hP : va_P (dC, dI) vwCl [(aw, .inl (cw, 6, .inr (.inr (.inr (.inr (tz_w w0 w1 w2 w3 w4 w5)))))), (w0, .inr (4, [])), (w1, .inr (1, [])), (w2, .inr (10, [])), (w3, .inr (3, [])), (w4, .inr (9, [])), (w5, .inr (8, []))] H := hP
          have hD : va_D A [(aw, .inl (cw, 6, .inr (.inr (.inr (.inr (tz_w w0 w1 w2 w3 w4 w5)))))), (w0, .inr (4, [])), (w1, .inr (1, [])), (w2, .inr (10, [])), (w3, .inr (3, [])), (w4, .inr (9, [])), (w5, .inr (8, []))] := hD
          obtain rfl : (-100) = r_86 := hw_87.symm
          exact W.iret (v := (-100)) hx hb hr (fun t ht hW => ⟨⟨(-100), (), rfl, ((if_pos hc_5).trans (if_neg hc_9)).symm, trivial⟩, hS.F ht⟩) hS.2.2 dX11_way_26
  · obtain rfl : 0 = r_3 := (hw_4.trans (if_neg hc_5)).symm
    refine lv_if_eq (tgt := 18) hx hb dX11_way_5 (by decide) (fun c_88 => ?_) (fun c_88 => ?_)
    · refine lv_aload_n hx hb dX11_way_18 rfl (lv_at hl 0 rfl) ?_
      refine lv_bipush (v := (-2)) hx hb dX11_way_19 (by decide) ?_
      refine lv_bipush (v := (-100)) hx hb dX11_way_21 (by decide) ?_
      have hPc := hP.sub (ws' := [(o, .inr (11, [.ref aw, .ref bk, .ref ai, .ref ak, .ref sc, .ref rd, .ref fo, .ref tx, .int 0, .ref ar, .ref atr, .ref ao])), (ar, .inl (cr, 3, .inl (fun _ => 0)))]) [0, 8] rfl
      have hDc := hD.sub (ws' := [(o, .inr (11, [.ref aw, .ref bk, .ref ai, .ref ak, .ref sc, .ref rd, .ref fo, .ref tx, .int 0, .ref ar, .ref atr, .ref ao])), (ar, .inl (cr, 3, .inl (fun _ => 0)))]) [0, 8] (by decide) rfl
      have hKc := hK.sub (tys' := [(cr, .int)]) [1] rfl
      have hFc := va_free (wc := [(o, .inr (11, [.ref aw, .ref bk, .ref ai, .ref ak, .ref sc, .ref rd, .ref fo, .ref tx, .int 0, .ref ar, .ref atr, .ref ao])), (ar, .inl (cr, 3, .inl (fun _ => 0)))]) hD hS hA [0, 8] rfl
      refine va_calli (va_runV (As := [.int (-2), .int (-100)]) (rest := []) ⟨hx, hb, hml, hown, hts⟩ (k_refuseAs l dC dI o (.ref aw) (.ref bk) (.ref ai) (.ref ak) (.ref sc) (.ref rd) (.ref fo) (.ref tx) (.int 0) ar (.ref atr) (.ref ao) cr (fun _ => 0) (-2) (-100) s.heap.size) (cwV 2 hts gX11_way_X11_refuseAs rfl rfl rfl (by decide +kernel) ⟨Nat.le_of_ble_eq_true rfl, Nat.le_of_ble_eq_true rfl⟩) ⟨fun a U g mk q => by obtain ⟨q0, q1, qP, qK, qD⟩ := q; exact ⟨q0, q1, qP, va_K.moved (u := U) (U := U.calling g mk a) (Vm.Alike.refl U.vm) qK, qD⟩, va_recv hK hP (ci := 11) (q0 := 0) rfl rfl, fun U hU hW => ⟨rfl, by rw [hU], by rw [hU]; exact hPc, va_K.moved hW.alike hKc, hDc.weaken (fun _ _ _ _ => trivial)⟩⟩ rfl rfl hl.1 rfl (lv_room (Nat.le_of_ble_eq_true rfl)) dX11_way_23 ⟨Nat.le_of_ble_eq_true rfl, Nat.le_of_ble_eq_true rfl⟩) hS (fun q _ h => hFc q h) hFc (fun r_89 u_ t H1 locs ht hvm hw_90 hB hz1 hk1 hS => ?_)
      obtain ⟨hP, hD⟩ := va_join (wr := [(aw, .inl (cw, 6, .inr (.inr (.inr (.inr (tz_w w0 w1 w2 w3 w4 w5)))))), (w0, .inr (4, [])), (w1, .inr (1, [])), (w2, .inr (10, [])), (w3, .inr (3, [])), (w4, .inr (9, [])), (w5, .inr (8, []))]) (w1 := []) hP hD [0, 8] [1, 2, 3, 4, 5, 6, 7] rfl rfl (by decide) (by decide) hk1 hFc tz_P0 tz_D0
      generalize H1 = H at hP hS ⊢
      have hP : va_P (dC, dI) vwCl [(aw, .inl (cw, 6, .inr (.inr (.inr (.inr (tz_w w0 w1 w2 w3 w4 w5)))))), (w0, .inr (4, [])), (w1, .inr (1, [])), (w2, .inr (10, [])), (w3, .inr (3, [])), (w4, .inr (9, [])), (w5, .inr (8, []))] H := hP
      have hD : va_D A [(aw, .inl (cw, 6, .inr (.inr (.inr (.inr (tz_w w0 w1 w2 w3 w4 w5)))))), (w0, .inr (4, [])), (w1, .inr (1, [])), (w2, .inr (10, [])), (w3, .inr (3, [])), (w4, .inr (9, [])), (w5, .inr (8, []))] := hD
      obtain rfl : (-100) = r_89 := hw_90.symm
      exact W.iret (v := (-100)) hx hb hr (fun t ht hW => ⟨⟨(-100), (), rfl, (if_neg hc_5).symm, trivial⟩, hS.F ht⟩) hS.2.2 dX11_way_26
    · exact absurd c_88 (by decide)
set_option maxRecDepth 20000 in
theorem ggX11_odds_X11_isWay : GoodIn wsX11_odds wsX11_isWay := goodIn_r _ [6, 1, 68, 69, 70, 71, 72, 73, 74, 75, 76, 77, 78, 79] (by decide +kernel) (by decide +kernel)
set_option maxRecDepth 20000 in
theorem gX11_odds_X11_isWay : GoodIn wsX11_odds (wsV RX11 135 RX11 yX11_isWay wsX11_isWay) := goodIn_app (goodIn_of _ (by decide +kernel)) ggX11_odds_X11_isWay
set_option maxRecDepth 20000 in
theorem ggX11_odds_X11_within : GoodIn wsX11_odds wsX11_within := goodIn_r _ [9] (by decide +kernel) (by decide +kernel)
set_option maxRecDepth 20000 in
theorem gX11_odds_X11_within : GoodIn wsX11_odds (va_wsS RX11 102 yX11_within wsX11_within) := goodIn_app (goodIn_of _ (by decide +kernel)) ggX11_odds_X11_within
set_option maxRecDepth 20000 in
theorem ggX11_odds_X4_oddsOff : GoodIn wsX11_odds wsX4_oddsOff := goodIn_r _ [24, 25, 26, 27, 28, 29, 30, 31, 32, 33, 34, 23, 35, 36, 37, 38, 39, 40, 41, 42, 43, 44, 45, 46, 47, 48, 49, 50, 51, 52, 53, 54, 55, 56, 57, 58, 59, 60, 61] (by decide +kernel) (by decide +kernel)
set_option maxRecDepth 20000 in
theorem gX11_odds_X4_oddsOff : GoodIn wsX11_odds (wsV RX11 181 RX4 yX4_oddsOff wsX4_oddsOff) := goodIn_app (goodIn_of _ (by decide +kernel)) ggX11_odds_X4_oddsOff
set_option maxRecDepth 20000 in
theorem gX11_odds_X4_oddsOff_u181X1 : GoodIn wsX11_odds (va_wsU RX11 181 RX1 "ThriceCounted$Ones" ⟨"ThriceCounted$Ones", "oddsOff", "(I)I"⟩ yX4_oddsOff wsX4_oddsOff) := goodIn_app (goodIn_of _ (by decide +kernel)) ggX11_odds_X4_oddsOff
set_option maxRecDepth 20000 in
theorem gX11_odds_X4_oddsOff_u181X10 : GoodIn wsX11_odds (va_wsU RX11 181 RX10 "ThriceCounted$Ones" ⟨"ThriceCounted$Ones", "oddsOff", "(I)I"⟩ yX4_oddsOff wsX4_oddsOff) := goodIn_app (goodIn_of _ (by decide +kernel)) ggX11_odds_X4_oddsOff
set_option maxRecDepth 20000 in
theorem gX11_odds_X4_oddsOff_u181X3 : GoodIn wsX11_odds (va_wsU RX11 181 RX3 "ThriceCounted$Ones" ⟨"ThriceCounted$Ones", "oddsOff", "(I)I"⟩ yX4_oddsOff wsX4_oddsOff) := goodIn_app (goodIn_of _ (by decide +kernel)) ggX11_odds_X4_oddsOff
set_option maxRecDepth 20000 in
theorem gX11_odds_X4_oddsOff_u181X9 : GoodIn wsX11_odds (va_wsU RX11 181 RX9 "ThriceCounted$Ones" ⟨"ThriceCounted$Ones", "oddsOff", "(I)I"⟩ yX4_oddsOff wsX4_oddsOff) := goodIn_app (goodIn_of _ (by decide +kernel)) ggX11_odds_X4_oddsOff
set_option maxRecDepth 20000 in
theorem gX11_odds_X4_oddsOff_u181X8 : GoodIn wsX11_odds (va_wsU RX11 181 RX8 "ThriceCounted$Ones" ⟨"ThriceCounted$Ones", "oddsOff", "(I)I"⟩ yX4_oddsOff wsX4_oddsOff) := goodIn_app (goodIn_of _ (by decide +kernel)) ggX11_odds_X4_oddsOff
set_option maxRecDepth 20000 in
theorem ggX11_odds_X11_refuse : GoodIn wsX11_odds wsX11_refuse := goodIn_r _ [13, 14, 15, 16, 5, 17, 18, 68, 69, 70, 71, 72, 73, 74, 75, 76, 77, 78, 79] (by decide +kernel) (by decide +kernel)
set_option maxRecDepth 20000 in
theorem gX11_odds_X11_refuse : GoodIn wsX11_odds (wsV RX11 106 RX11 yX11_refuse wsX11_refuse) := goodIn_app (goodIn_of _ (by decide +kernel)) ggX11_odds_X11_refuse
theorem dX11_odds_0 : decode cX11_odds 0 = .ok (.aload_n 0, 1) := by decide +kernel
theorem dX11_odds_1 : decode cX11_odds 1 = .ok (.iload_n 1, 1) := by decide +kernel
theorem dX11_odds_2 : decode cX11_odds 2 = .ok (.invokevirtual 135, 3) := by decide +kernel
theorem dX11_odds_5 : decode cX11_odds 5 = .ok (.ifCond .eq 14, 3) := by decide +kernel
theorem dX11_odds_8 : decode cX11_odds 8 = .ok (.iload_n 2, 1) := by decide +kernel
theorem dX11_odds_9 : decode cX11_odds 9 = .ok (.bipush (-40), 2) := by decide +kernel
theorem dX11_odds_11 : decode cX11_odds 11 = .ok (.bipush 40, 2) := by decide +kernel
theorem dX11_odds_13 : decode cX11_odds 13 = .ok (.invokestatic 102, 3) := by decide +kernel
theorem dX11_odds_16 : decode cX11_odds 16 = .ok (.ifCond .ne 10, 3) := by decide +kernel
theorem dX11_odds_26 : decode cX11_odds 26 = .ok (.aload_n 0, 1) := by decide +kernel
theorem dX11_odds_27 : decode cX11_odds 27 = .ok (.getfield 25, 3) := by decide +kernel
theorem dX11_odds_30 : decode cX11_odds 30 = .ok (.iload_n 1, 1) := by decide +kernel
theorem dX11_odds_31 : decode cX11_odds 31 = .ok (.aaload, 1) := by decide +kernel
theorem dX11_odds_32 : decode cX11_odds 32 = .ok (.iload_n 2, 1) := by decide +kernel
theorem dX11_odds_33 : decode cX11_odds 33 = .ok (.invokevirtual 181, 3) := by decide +kernel
theorem dX11_odds_36 : decode cX11_odds 36 = .ok (.ireturn, 1) := by decide +kernel
theorem dX11_odds_19 : decode cX11_odds 19 = .ok (.aload_n 0, 1) := by decide +kernel
theorem dX11_odds_20 : decode cX11_odds 20 = .ok (.bipush (-2), 2) := by decide +kernel
theorem dX11_odds_22 : decode cX11_odds 22 = .ok (.invokevirtual 106, 3) := by decide +kernel
theorem dX11_odds_25 : decode cX11_odds 25 = .ok (.ireturn, 1) := by decide +kernel
set_option maxRecDepth 20000 in
theorem iw_k_x_odds_X11 : ∀ w ∈ wsX110, w ∈ wsX11_odds := by decide +kernel
set_option maxHeartbeats 4000000 in
set_option maxRecDepth 100000 in
theorem k_x_odds (l : Launch) (dC : Nat → ClassId) (dI : Nat → Nat → Nat) (o : Nat) (aw : Nat) (bk : Nat) (ai : Nat) (ak : Nat) (sc : Nat) (rd : Nat) (fo : Nat) (tx : Nat) (ar : Nat) (atr : Nat) (ao : Nat) (cw : ClassId) (w0 : Nat) (w1 : Nat) (w2 : Nat) (w3 : Nat) (w4 : Nat) (w5 : Nat) (cr : ClassId) (na : Int32) (nb : Int32) (sz : Nat) : Met l yX11_odds wsX11_odds ({ frames := 4, cells := 0, slots := 0, locals := 86 }) (va_Pc [.ref o, .int na, .int nb] (fun U => U.heap.size = sz ∧ va_P (dC, dI) vwCl [(o, .inr (11, [.ref aw, .ref bk, .ref ai, .ref ak, .ref sc, .ref rd, .ref fo, .ref tx, .int 0, .ref ar, .ref atr, .ref ao])), (aw, .inl (cw, 6, .inr (.inr (.inr (.inr (tz_w w0 w1 w2 w3 w4 w5)))))), (w0, .inr (4, [])), (w1, .inr (1, [])), (w2, .inr (10, [])), (w3, .inr (3, [])), (w4, .inr (9, [])), (w5, .inr (8, [])), (ar, .inl (cr, 3, .inl (fun _ => 0)))] U.heap ∧ va_K (dC, dI) vwCl [(cw, (.object "ThriceCounted$Ones")), (cr, .int)] U ∧ va_D (fun _ => True) [(o, .inr (11, [.ref aw, .ref bk, .ref ai, .ref ak, .ref sc, .ref rd, .ref fo, .ref tx, .int 0, .ref ar, .ref atr, .ref ao])), (aw, .inl (cw, 6, .inr (.inr (.inr (.inr (tz_w w0 w1 w2 w3 w4 w5)))))), (w0, .inr (4, [])), (w1, .inr (1, [])), (w2, .inr (10, [])), (w3, .inr (3, [])), (w4, .inr (9, [])), (w5, .inr (8, [])), (ar, .inl (cr, 3, .inl (fun _ => 0)))])) (va_Qi (fun (r : Int32) (_ : Unit) => r = (if 0 ≤ na ∧ na ≤ 5 then (if (-40) ≤ nb ∧ nb ≤ 40 then zN (zS na) nb 20 else (-2)) else (-2))) (fun _ _ => True) (va_A [(o, .inr (11, [.ref aw, .ref bk, .ref ai, .ref ak, .ref sc, .ref rd, .ref fo, .ref tx, .int 0, .ref ar, .ref atr, .ref ao])), (aw, .inl (cw, 6, .inr (.inr (.inr (.inr (tz_w w0 w1 w2 w3 w4 w5)))))), (w0, .inr (4, [])), (w1, .inr (1, [])), (w2, .inr (10, [])), (w3, .inr (3, [])), (w4, .inr (9, [])), (w5, .inr (8, [])), (ar, .inl (cr, 3, .inl (fun _ => 0)))] sz)) 0 0 (va_A [(o, .inr (11, [.ref aw, .ref bk, .ref ai, .ref ak, .ref sc, .ref rd, .ref fo, .ref tx, .int 0, .ref ar, .ref atr, .ref ao])), (aw, .inl (cw, 6, .inr (.inr (.inr (.inr (tz_w w0 w1 w2 w3 w4 w5)))))), (w0, .inr (4, [])), (w1, .inr (1, [])), (w2, .inr (10, [])), (w3, .inr (3, [])), (w4, .inr (9, [])), (w5, .inr (8, [])), (ar, .inl (cr, 3, .inl (fun _ => 0)))] sz) := by
  refine Met.ofW (cc := cX11_odds) (maxL := 3) (ret := (some .int)) (by decide) rfl ?_
  intro p e s m args below meth c s₁ B hml hv
  obtain ⟨rfl, hsz, hP, hK, hD0⟩ := hv
  have hx := B.exec
  have hb := B.bytes
  have hr := B.returns
  have hts := atoms_spec (ws := wsX11_odds) B.pre
  have hown : s.vm.findClass RX11 = some m.cls := findClass_of_methodNamed B.named
  have hlocks := B.notSynchronized
  subst hsz
  have hD := hD0.self (sz := s.heap.size)
  generalize hAe : va_A [(o, .inr (11, [.ref aw, .ref bk, .ref ai, .ref ak, .ref sc, .ref rd, .ref fo, .ref tx, .int 0, .ref ar, .ref atr, .ref ao])), (aw, .inl (cw, 6, .inr (.inr (.inr (.inr (tz_w w0 w1 w2 w3 w4 w5)))))), (w0, .inr (4, [])), (w1, .inr (1, [])), (w2, .inr (10, [])), (w3, .inr (3, [])), (w4, .inr (9, [])), (w5, .inr (8, [])), (ar, .inl (cr, 3, .inl (fun _ => 0)))] s.heap.size = A at hD ⊢
  have hA : ∀ q : Nat, s.heap.size ≤ q → A q := fun q h => by rw [← hAe]; exact Or.inr h
  have hS : va_S A s.heap s.heap [] := va_S.rf
  have hP : va_P (dC, dI) vwCl [(o, .inr (11, [.ref aw, .ref bk, .ref ai, .ref ak, .ref sc, .ref rd, .ref fo, .ref tx, .int 0, .ref ar, .ref atr, .ref ao])), (aw, .inl (cw, 6, .inr (.inr (.inr (.inr (tz_w w0 w1 w2 w3 w4 w5)))))), (w0, .inr (4, [])), (w1, .inr (1, [])), (w2, .inr (10, [])), (w3, .inr (3, [])), (w4, .inr (9, [])), (w5, .inr (8, [])), (ar, .inl (cr, 3, .inl (fun _ => 0)))] s.heap := hP
  have hl := lv_entry ([.ref o, .int na, .int nb]) (n := 3) (Nat.le_of_ble_eq_true rfl)
  rw [lg_entry_eq]
  generalize (lg_sl ([.ref o, .int na, .int nb]) ++ List.replicate (3 - (lg_sl ([.ref o, .int na, .int nb])).length) Slot.unset).toArray = ls at hl ⊢
  have hl : lv_has ls 3 [(0, .ref o), (1, .int na), (2, .int nb)] := hl
  refine lv_aload_n hx hb dX11_odds_0 rfl (lv_at hl 0 rfl) ?_
  refine lv_iload_n hx hb dX11_odds_1 rfl (lv_at hl 1 rfl) ?_
  have hPc_1 := hP.sub (ws' := [(o, .inr (11, [.ref aw, .ref bk, .ref ai, .ref ak, .ref sc, .ref rd, .ref fo, .ref tx, .int 0, .ref ar, .ref atr, .ref ao])), (aw, .inl (cw, 6, .inr (.inr (.inr (.inr (tz_w w0 w1 w2 w3 w4 w5))))))]) [0, 1] rfl
  have hKc_2 := hK.sub (tys' := [(cw, (.object "ThriceCounted$Ones"))]) [0] rfl
  refine vp_callSi (va_Run.run (va_runV (As := [.int na]) (rest := []) ⟨hx, hb, hml, hown, hts⟩ (k_isWay l dC dI o aw (.ref bk) (.ref ai) (.ref ak) (.ref sc) (.ref rd) (.ref fo) (.ref tx) (.int 0) (.ref ar) (.ref atr) (.ref ao) cw w0 w1 w2 w3 w4 w5 na) (cwV 1 hts gX11_odds_X11_isWay rfl rfl rfl (by decide +kernel) ⟨Nat.le_of_ble_eq_true rfl, Nat.le_of_ble_eq_true rfl⟩) ⟨fun a U g mk q => by obtain ⟨q0, qP, qK⟩ := q; exact ⟨q0, qP, va_K.moved (u := U) (U := U.calling g mk a) (Vm.Alike.refl U.vm) qK⟩, va_recv hK hP (ci := 11) (q0 := 0) rfl rfl, fun U hU hW => ⟨rfl, by rw [hU]; exact hPc_1, va_K.moved hW.alike hKc_2⟩⟩ rfl rfl hl.1 rfl (lv_room (Nat.le_of_ble_eq_true rfl)) dX11_odds_2 ⟨Nat.le_of_ble_eq_true rfl, Nat.le_of_ble_eq_true rfl⟩)) (fun r_3 hw_4 => ?_)
  by_cases hc_5 : 0 ≤ na ∧ na ≤ 5
  · obtain rfl : 1 = r_3 := (hw_4.trans (if_pos hc_5)).symm
    refine lv_if_eq (tgt := 19) hx hb dX11_odds_5 (by decide) (fun c_6 => ?_) (fun c_6 => ?_)
    · exact absurd c_6 (by decide)
    · refine lv_iload_n hx hb dX11_odds_8 rfl (lv_at hl 2 rfl) ?_
      refine lv_bipush (v := (-40)) hx hb dX11_odds_9 (by decide) ?_
      refine lv_bipush (v := 40) hx hb dX11_odds_11 (by decide) ?_
      refine vp_callSi (va_Run.run (va_runS (As := [.int nb, .int (-40), .int 40]) (rest := []) ⟨hx, hb, hml, hown, hts⟩ (k_within l dC dI nb (-40) 40) (va_cwS 3 hts gX11_odds_X11_within rfl rfl rfl (by decide +kernel) ⟨Nat.le_of_ble_eq_true rfl, Nat.le_of_ble_eq_true rfl⟩) ⟨fun a U g mk q => ⟨q.1, trivial⟩, fun U hU hW => ⟨rfl, trivial⟩⟩ rfl rfl hl.1 rfl (lv_room (Nat.le_of_ble_eq_true rfl)) dX11_odds_13 ⟨Nat.le_of_ble_eq_true rfl, Nat.le_of_ble_eq_true rfl⟩)) (fun r_7 hw_8 => ?_)
      by_cases hc_9 : (-40) ≤ nb ∧ nb ≤ 40
      · obtain rfl : 1 = r_7 := (hw_8.trans (if_pos hc_9)).symm
        refine lv_if_ne (tgt := 26) hx hb dX11_odds_16 (by decide) (fun c_10 => ?_) (fun c_10 => ?_)
        · rcases (tz_six hc_5) with rfl | rfl | rfl | rfl | rfl | rfl
          · refine lv_aload_n hx hb dX11_odds_26 rfl (lv_at hl 0 rfl) ?_
            refine va_get (D := (dC, dI)) (ci := 11) (v := .ref aw) (C := RX11) (T := TX11) (N := 12) hx hb hts iw_k_x_odds_X11 hown hK hP 0 rfl rfl 0 (by decide) (hts (.fieldLink RX11 25 "ThriceCounted" "ways" "[LThriceCounted$Ones;") (by decide +kernel)) (fun _ h9 => h9) rfl dX11_odds_27 ?_
            refine lv_iload_n hx hb dX11_odds_30 rfl (lv_at hl 1 rfl) ?_
            refine va_aldq hx hb hK hP 1 0 rfl rfl (show ¬ ((0 : Int32) < 0 ∨ 6 ≤ (0 : Int32).toNatClampNeg) by decide) dX11_odds_31 ?_
            refine tz_v (.ref w0) rfl ?_
            refine lv_iload_n hx hb dX11_odds_32 rfl (lv_at hl 2 rfl) ?_
            have hPc_11 := hP.sub (ws' := [(w0, .inr (4, []))]) [2] rfl
            have hKc_12 := hK.sub (tys' := []) [] rfl
            refine vp_callSi (va_Run.run (va_runV (As := [.int nb]) (rest := []) ⟨hx, hb, hml, hown, hts⟩ (k_odds_X4 l dC dI w0 nb) (cwV 1 hts gX11_odds_X4_oddsOff rfl rfl rfl (by decide +kernel) ⟨Nat.le_of_ble_eq_true rfl, Nat.le_of_ble_eq_true rfl⟩) ⟨fun a U g mk q => by obtain ⟨q0, qP, qK⟩ := q; exact ⟨q0, qP, va_K.moved (u := U) (U := U.calling g mk a) (Vm.Alike.refl U.vm) qK⟩, va_recv hK hP (ci := 4) (q0 := 2) rfl rfl, fun U hU hW => ⟨rfl, by rw [hU]; exact hPc_11, va_K.moved hW.alike hKc_12⟩⟩ rfl rfl hl.1 rfl (lv_room (Nat.le_of_ble_eq_true rfl)) dX11_odds_33 ⟨Nat.le_of_ble_eq_true rfl, Nat.le_of_ble_eq_true rfl⟩)) (fun r_13 hw_14 => ?_)
            obtain rfl : (zN zO nb 20) = r_13 := hw_14.symm
            exact W.iret (v := (zN zO nb 20)) hx hb hr (fun t ht hW => ⟨⟨(zN zO nb 20), (), rfl, ((if_pos hc_5).trans (if_pos hc_9)).symm, trivial⟩, hS.F ht⟩) hS.2.2 dX11_odds_36
          · refine lv_aload_n hx hb dX11_odds_26 rfl (lv_at hl 0 rfl) ?_
            refine va_get (D := (dC, dI)) (ci := 11) (v := .ref aw) (C := RX11) (T := TX11) (N := 12) hx hb hts iw_k_x_odds_X11 hown hK hP 0 rfl rfl 0 (by decide) (hts (.fieldLink RX11 25 "ThriceCounted" "ways" "[LThriceCounted$Ones;") (by decide +kernel)) (fun _ h9 => h9) rfl dX11_odds_27 ?_
            refine lv_iload_n hx hb dX11_odds_30 rfl (lv_at hl 1 rfl) ?_
            refine va_aldq hx hb hK hP 1 0 rfl rfl (show ¬ ((1 : Int32) < 0 ∨ 6 ≤ (1 : Int32).toNatClampNeg) by decide) dX11_odds_31 ?_
            refine tz_v (.ref w1) rfl ?_
            refine lv_iload_n hx hb dX11_odds_32 rfl (lv_at hl 2 rfl) ?_
            have hPc_15 := hP.sub (ws' := [(w1, .inr (1, []))]) [3] rfl
            have hKc_16 := hK.sub (tys' := []) [] rfl
            refine vp_callSi (va_Run.run (va_runU (C := RX1) (As := [.int nb]) (rest := []) ⟨hx, hb, hml, hown, hts⟩ (k_odds_X1 l dC dI w1 nb) (va_cwU 1 hts gX11_odds_X4_oddsOff_u181X1 rfl rfl rfl rfl (by decide +kernel) ⟨Nat.le_of_ble_eq_true rfl, Nat.le_of_ble_eq_true rfl⟩) ⟨fun a U g mk q => by obtain ⟨q0, qP, qK⟩ := q; exact ⟨q0, qP, va_K.moved (u := U) (U := U.calling g mk a) (Vm.Alike.refl U.vm) qK⟩, va_recv hK hP (ci := 1) (q0 := 3) rfl rfl, fun U hU hW => ⟨rfl, by rw [hU]; exact hPc_15, va_K.moved hW.alike hKc_16⟩⟩ rfl rfl hl.1 rfl (lv_room (Nat.le_of_ble_eq_true rfl)) dX11_odds_33 ⟨Nat.le_of_ble_eq_true rfl, Nat.le_of_ble_eq_true rfl⟩)) (fun r_17 hw_18 => ?_)
            obtain rfl : (zN zF nb 20) = r_17 := hw_18.symm
            exact W.iret (v := (zN zF nb 20)) hx hb hr (fun t ht hW => ⟨⟨(zN zF nb 20), (), rfl, ((if_pos hc_5).trans (if_pos hc_9)).symm, trivial⟩, hS.F ht⟩) hS.2.2 dX11_odds_36
          · refine lv_aload_n hx hb dX11_odds_26 rfl (lv_at hl 0 rfl) ?_
            refine va_get (D := (dC, dI)) (ci := 11) (v := .ref aw) (C := RX11) (T := TX11) (N := 12) hx hb hts iw_k_x_odds_X11 hown hK hP 0 rfl rfl 0 (by decide) (hts (.fieldLink RX11 25 "ThriceCounted" "ways" "[LThriceCounted$Ones;") (by decide +kernel)) (fun _ h9 => h9) rfl dX11_odds_27 ?_
            refine lv_iload_n hx hb dX11_odds_30 rfl (lv_at hl 1 rfl) ?_
            refine va_aldq hx hb hK hP 1 0 rfl rfl (show ¬ ((2 : Int32) < 0 ∨ 6 ≤ (2 : Int32).toNatClampNeg) by decide) dX11_odds_31 ?_
            refine tz_v (.ref w2) rfl ?_
            refine lv_iload_n hx hb dX11_odds_32 rfl (lv_at hl 2 rfl) ?_
            have hPc_19 := hP.sub (ws' := [(w2, .inr (10, []))]) [4] rfl
            have hKc_20 := hK.sub (tys' := []) [] rfl
            refine vp_callSi (va_Run.run (va_runU (C := RX10) (As := [.int nb]) (rest := []) ⟨hx, hb, hml, hown, hts⟩ (k_odds_X10 l dC dI w2 nb) (va_cwU 1 hts gX11_odds_X4_oddsOff_u181X10 rfl rfl rfl rfl (by decide +kernel) ⟨Nat.le_of_ble_eq_true rfl, Nat.le_of_ble_eq_true rfl⟩) ⟨fun a U g mk q => by obtain ⟨q0, qP, qK⟩ := q; exact ⟨q0, qP, va_K.moved (u := U) (U := U.calling g mk a) (Vm.Alike.refl U.vm) qK⟩, va_recv hK hP (ci := 10) (q0 := 4) rfl rfl, fun U hU hW => ⟨rfl, by rw [hU]; exact hPc_19, va_K.moved hW.alike hKc_20⟩⟩ rfl rfl hl.1 rfl (lv_room (Nat.le_of_ble_eq_true rfl)) dX11_odds_33 ⟨Nat.le_of_ble_eq_true rfl, Nat.le_of_ble_eq_true rfl⟩)) (fun r_21 hw_22 => ?_)
            obtain rfl : (zN zW nb 20) = r_21 := hw_22.symm
            exact W.iret (v := (zN zW nb 20)) hx hb hr (fun t ht hW => ⟨⟨(zN zW nb 20), (), rfl, ((if_pos hc_5).trans (if_pos hc_9)).symm, trivial⟩, hS.F ht⟩) hS.2.2 dX11_odds_36
          · refine lv_aload_n hx hb dX11_odds_26 rfl (lv_at hl 0 rfl) ?_
            refine va_get (D := (dC, dI)) (ci := 11) (v := .ref aw) (C := RX11) (T := TX11) (N := 12) hx hb hts iw_k_x_odds_X11 hown hK hP 0 rfl rfl 0 (by decide) (hts (.fieldLink RX11 25 "ThriceCounted" "ways" "[LThriceCounted$Ones;") (by decide +kernel)) (fun _ h9 => h9) rfl dX11_odds_27 ?_
            refine lv_iload_n hx hb dX11_odds_30 rfl (lv_at hl 1 rfl) ?_
            refine va_aldq hx hb hK hP 1 0 rfl rfl (show ¬ ((3 : Int32) < 0 ∨ 6 ≤ (3 : Int32).toNatClampNeg) by decide) dX11_odds_31 ?_
            refine tz_v (.ref w3) rfl ?_
            refine lv_iload_n hx hb dX11_odds_32 rfl (lv_at hl 2 rfl) ?_
            have hPc_23 := hP.sub (ws' := [(w3, .inr (3, []))]) [5] rfl
            have hKc_24 := hK.sub (tys' := []) [] rfl
            refine vp_callSi (va_Run.run (va_runU (C := RX3) (As := [.int nb]) (rest := []) ⟨hx, hb, hml, hown, hts⟩ (k_odds_X3 l dC dI w3 nb) (va_cwU 1 hts gX11_odds_X4_oddsOff_u181X3 rfl rfl rfl rfl (by decide +kernel) ⟨Nat.le_of_ble_eq_true rfl, Nat.le_of_ble_eq_true rfl⟩) ⟨fun a U g mk q => by obtain ⟨q0, qP, qK⟩ := q; exact ⟨q0, qP, va_K.moved (u := U) (U := U.calling g mk a) (Vm.Alike.refl U.vm) qK⟩, va_recv hK hP (ci := 3) (q0 := 5) rfl rfl, fun U hU hW => ⟨rfl, by rw [hU]; exact hPc_23, va_K.moved hW.alike hKc_24⟩⟩ rfl rfl hl.1 rfl (lv_room (Nat.le_of_ble_eq_true rfl)) dX11_odds_33 ⟨Nat.le_of_ble_eq_true rfl, Nat.le_of_ble_eq_true rfl⟩)) (fun r_25 hw_26 => ?_)
            obtain rfl : (zN zH nb 20) = r_25 := hw_26.symm
            exact W.iret (v := (zN zH nb 20)) hx hb hr (fun t ht hW => ⟨⟨(zN zH nb 20), (), rfl, ((if_pos hc_5).trans (if_pos hc_9)).symm, trivial⟩, hS.F ht⟩) hS.2.2 dX11_odds_36
          · refine lv_aload_n hx hb dX11_odds_26 rfl (lv_at hl 0 rfl) ?_
            refine va_get (D := (dC, dI)) (ci := 11) (v := .ref aw) (C := RX11) (T := TX11) (N := 12) hx hb hts iw_k_x_odds_X11 hown hK hP 0 rfl rfl 0 (by decide) (hts (.fieldLink RX11 25 "ThriceCounted" "ways" "[LThriceCounted$Ones;") (by decide +kernel)) (fun _ h9 => h9) rfl dX11_odds_27 ?_
            refine lv_iload_n hx hb dX11_odds_30 rfl (lv_at hl 1 rfl) ?_
            refine va_aldq hx hb hK hP 1 0 rfl rfl (show ¬ ((4 : Int32) < 0 ∨ 6 ≤ (4 : Int32).toNatClampNeg) by decide) dX11_odds_31 ?_
            refine tz_v (.ref w4) rfl ?_
            refine lv_iload_n hx hb dX11_odds_32 rfl (lv_at hl 2 rfl) ?_
            have hPc_27 := hP.sub (ws' := [(w4, .inr (9, []))]) [6] rfl
            have hKc_28 := hK.sub (tys' := []) [] rfl
            refine vp_callSi (va_Run.run (va_runU (C := RX9) (As := [.int nb]) (rest := []) ⟨hx, hb, hml, hown, hts⟩ (k_odds_X9 l dC dI w4 nb) (va_cwU 1 hts gX11_odds_X4_oddsOff_u181X9 rfl rfl rfl rfl (by decide +kernel) ⟨Nat.le_of_ble_eq_true rfl, Nat.le_of_ble_eq_true rfl⟩) ⟨fun a U g mk q => by obtain ⟨q0, qP, qK⟩ := q; exact ⟨q0, qP, va_K.moved (u := U) (U := U.calling g mk a) (Vm.Alike.refl U.vm) qK⟩, va_recv hK hP (ci := 9) (q0 := 6) rfl rfl, fun U hU hW => ⟨rfl, by rw [hU]; exact hPc_27, va_K.moved hW.alike hKc_28⟩⟩ rfl rfl hl.1 rfl (lv_room (Nat.le_of_ble_eq_true rfl)) dX11_odds_33 ⟨Nat.le_of_ble_eq_true rfl, Nat.le_of_ble_eq_true rfl⟩)) (fun r_29 hw_30 => ?_)
            obtain rfl : (zN zT nb 20) = r_29 := hw_30.symm
            exact W.iret (v := (zN zT nb 20)) hx hb hr (fun t ht hW => ⟨⟨(zN zT nb 20), (), rfl, ((if_pos hc_5).trans (if_pos hc_9)).symm, trivial⟩, hS.F ht⟩) hS.2.2 dX11_odds_36
          · refine lv_aload_n hx hb dX11_odds_26 rfl (lv_at hl 0 rfl) ?_
            refine va_get (D := (dC, dI)) (ci := 11) (v := .ref aw) (C := RX11) (T := TX11) (N := 12) hx hb hts iw_k_x_odds_X11 hown hK hP 0 rfl rfl 0 (by decide) (hts (.fieldLink RX11 25 "ThriceCounted" "ways" "[LThriceCounted$Ones;") (by decide +kernel)) (fun _ h9 => h9) rfl dX11_odds_27 ?_
            refine lv_iload_n hx hb dX11_odds_30 rfl (lv_at hl 1 rfl) ?_
            refine va_aldq hx hb hK hP 1 0 rfl rfl (show ¬ ((5 : Int32) < 0 ∨ 6 ≤ (5 : Int32).toNatClampNeg) by decide) dX11_odds_31 ?_
            refine tz_v (.ref w5) rfl ?_
            refine lv_iload_n hx hb dX11_odds_32 rfl (lv_at hl 2 rfl) ?_
            have hPc_31 := hP.sub (ws' := [(w5, .inr (8, []))]) [7] rfl
            have hKc_32 := hK.sub (tys' := []) [] rfl
            refine vp_callSi (va_Run.run (va_runU (C := RX8) (As := [.int nb]) (rest := []) ⟨hx, hb, hml, hown, hts⟩ (k_odds_X8 l dC dI w5 nb) (va_cwU 1 hts gX11_odds_X4_oddsOff_u181X8 rfl rfl rfl rfl (by decide +kernel) ⟨Nat.le_of_ble_eq_true rfl, Nat.le_of_ble_eq_true rfl⟩) ⟨fun a U g mk q => by obtain ⟨q0, qP, qK⟩ := q; exact ⟨q0, qP, va_K.moved (u := U) (U := U.calling g mk a) (Vm.Alike.refl U.vm) qK⟩, va_recv hK hP (ci := 8) (q0 := 7) rfl rfl, fun U hU hW => ⟨rfl, by rw [hU]; exact hPc_31, va_K.moved hW.alike hKc_32⟩⟩ rfl rfl hl.1 rfl (lv_room (Nat.le_of_ble_eq_true rfl)) dX11_odds_33 ⟨Nat.le_of_ble_eq_true rfl, Nat.le_of_ble_eq_true rfl⟩)) (fun r_33 hw_34 => ?_)
            obtain rfl : (zN zK nb 20) = r_33 := hw_34.symm
            exact W.iret (v := (zN zK nb 20)) hx hb hr (fun t ht hW => ⟨⟨(zN zK nb 20), (), rfl, ((if_pos hc_5).trans (if_pos hc_9)).symm, trivial⟩, hS.F ht⟩) hS.2.2 dX11_odds_36
        · exact absurd c_10 (by decide)
      · obtain rfl : 0 = r_7 := (hw_8.trans (if_neg hc_9)).symm
        refine lv_if_ne (tgt := 26) hx hb dX11_odds_16 (by decide) (fun c_35 => ?_) (fun c_35 => ?_)
        · exact absurd c_35 (by decide)
        · refine lv_aload_n hx hb dX11_odds_19 rfl (lv_at hl 0 rfl) ?_
          refine lv_bipush (v := (-2)) hx hb dX11_odds_20 (by decide) ?_
          have hPc := hP.sub (ws' := [(o, .inr (11, [.ref aw, .ref bk, .ref ai, .ref ak, .ref sc, .ref rd, .ref fo, .ref tx, .int 0, .ref ar, .ref atr, .ref ao])), (ar, .inl (cr, 3, .inl (fun _ => 0)))]) [0, 8] rfl
          have hDc := hD.sub (ws' := [(o, .inr (11, [.ref aw, .ref bk, .ref ai, .ref ak, .ref sc, .ref rd, .ref fo, .ref tx, .int 0, .ref ar, .ref atr, .ref ao])), (ar, .inl (cr, 3, .inl (fun _ => 0)))]) [0, 8] (by decide) rfl
          have hKc := hK.sub (tys' := [(cr, .int)]) [1] rfl
          have hFc := va_free (wc := [(o, .inr (11, [.ref aw, .ref bk, .ref ai, .ref ak, .ref sc, .ref rd, .ref fo, .ref tx, .int 0, .ref ar, .ref atr, .ref ao])), (ar, .inl (cr, 3, .inl (fun _ => 0)))]) hD hS hA [0, 8] rfl
          refine va_calli (va_runV (As := [.int (-2)]) (rest := []) ⟨hx, hb, hml, hown, hts⟩ (k_refuse l dC dI o (.ref aw) (.ref bk) (.ref ai) (.ref ak) (.ref sc) (.ref rd) (.ref fo) (.ref tx) (.int 0) ar (.ref atr) (.ref ao) cr (fun _ => 0) (-2) s.heap.size) (cwV 1 hts gX11_odds_X11_refuse rfl rfl rfl (by decide +kernel) ⟨Nat.le_of_ble_eq_true rfl, Nat.le_of_ble_eq_true rfl⟩) ⟨fun a U g mk q => by obtain ⟨q0, q1, qP, qK, qD⟩ := q; exact ⟨q0, q1, qP, va_K.moved (u := U) (U := U.calling g mk a) (Vm.Alike.refl U.vm) qK, qD⟩, va_recv hK hP (ci := 11) (q0 := 0) rfl rfl, fun U hU hW => ⟨rfl, by rw [hU], by rw [hU]; exact hPc, va_K.moved hW.alike hKc, hDc.weaken (fun _ _ _ _ => trivial)⟩⟩ rfl rfl hl.1 rfl (lv_room (Nat.le_of_ble_eq_true rfl)) dX11_odds_22 ⟨Nat.le_of_ble_eq_true rfl, Nat.le_of_ble_eq_true rfl⟩) hS (fun q _ h => hFc q h) hFc (fun r_36 u_ t H1 locs ht hvm hw_37 hB hz1 hk1 hS => ?_)
          obtain ⟨hP, hD⟩ := va_join (wr := [(aw, .inl (cw, 6, .inr (.inr (.inr (.inr (tz_w w0 w1 w2 w3 w4 w5)))))), (w0, .inr (4, [])), (w1, .inr (1, [])), (w2, .inr (10, [])), (w3, .inr (3, [])), (w4, .inr (9, [])), (w5, .inr (8, []))]) (w1 := []) hP hD [0, 8] [1, 2, 3, 4, 5, 6, 7] rfl rfl (by decide) (by decide) hk1 hFc tz_P0 tz_D0
          generalize H1 = H at hP hS ⊢
          have hP : va_P (dC, dI) vwCl [(aw, .inl (cw, 6, .inr (.inr (.inr (.inr (tz_w w0 w1 w2 w3 w4 w5)))))), (w0, .inr (4, [])), (w1, .inr (1, [])), (w2, .inr (10, [])), (w3, .inr (3, [])), (w4, .inr (9, [])), (w5, .inr (8, []))] H := hP
          have hD : va_D A [(aw, .inl (cw, 6, .inr (.inr (.inr (.inr (tz_w w0 w1 w2 w3 w4 w5)))))), (w0, .inr (4, [])), (w1, .inr (1, [])), (w2, .inr (10, [])), (w3, .inr (3, [])), (w4, .inr (9, [])), (w5, .inr (8, []))] := hD
          obtain rfl : (-2) = r_36 := hw_37.symm
          exact W.iret (v := (-2)) hx hb hr (fun t ht hW => ⟨⟨(-2), (), rfl, ((if_pos hc_5).trans (if_neg hc_9)).symm, trivial⟩, hS.F ht⟩) hS.2.2 dX11_odds_25
  · obtain rfl : 0 = r_3 := (hw_4.trans (if_neg hc_5)).symm
    refine lv_if_eq (tgt := 19) hx hb dX11_odds_5 (by decide) (fun c_38 => ?_) (fun c_38 => ?_)
    · refine lv_aload_n hx hb dX11_odds_19 rfl (lv_at hl 0 rfl) ?_
      refine lv_bipush (v := (-2)) hx hb dX11_odds_20 (by decide) ?_
      have hPc := hP.sub (ws' := [(o, .inr (11, [.ref aw, .ref bk, .ref ai, .ref ak, .ref sc, .ref rd, .ref fo, .ref tx, .int 0, .ref ar, .ref atr, .ref ao])), (ar, .inl (cr, 3, .inl (fun _ => 0)))]) [0, 8] rfl
      have hDc := hD.sub (ws' := [(o, .inr (11, [.ref aw, .ref bk, .ref ai, .ref ak, .ref sc, .ref rd, .ref fo, .ref tx, .int 0, .ref ar, .ref atr, .ref ao])), (ar, .inl (cr, 3, .inl (fun _ => 0)))]) [0, 8] (by decide) rfl
      have hKc := hK.sub (tys' := [(cr, .int)]) [1] rfl
      have hFc := va_free (wc := [(o, .inr (11, [.ref aw, .ref bk, .ref ai, .ref ak, .ref sc, .ref rd, .ref fo, .ref tx, .int 0, .ref ar, .ref atr, .ref ao])), (ar, .inl (cr, 3, .inl (fun _ => 0)))]) hD hS hA [0, 8] rfl
      refine va_calli (va_runV (As := [.int (-2)]) (rest := []) ⟨hx, hb, hml, hown, hts⟩ (k_refuse l dC dI o (.ref aw) (.ref bk) (.ref ai) (.ref ak) (.ref sc) (.ref rd) (.ref fo) (.ref tx) (.int 0) ar (.ref atr) (.ref ao) cr (fun _ => 0) (-2) s.heap.size) (cwV 1 hts gX11_odds_X11_refuse rfl rfl rfl (by decide +kernel) ⟨Nat.le_of_ble_eq_true rfl, Nat.le_of_ble_eq_true rfl⟩) ⟨fun a U g mk q => by obtain ⟨q0, q1, qP, qK, qD⟩ := q; exact ⟨q0, q1, qP, va_K.moved (u := U) (U := U.calling g mk a) (Vm.Alike.refl U.vm) qK, qD⟩, va_recv hK hP (ci := 11) (q0 := 0) rfl rfl, fun U hU hW => ⟨rfl, by rw [hU], by rw [hU]; exact hPc, va_K.moved hW.alike hKc, hDc.weaken (fun _ _ _ _ => trivial)⟩⟩ rfl rfl hl.1 rfl (lv_room (Nat.le_of_ble_eq_true rfl)) dX11_odds_22 ⟨Nat.le_of_ble_eq_true rfl, Nat.le_of_ble_eq_true rfl⟩) hS (fun q _ h => hFc q h) hFc (fun r_39 u_ t H1 locs ht hvm hw_40 hB hz1 hk1 hS => ?_)
      obtain ⟨hP, hD⟩ := va_join (wr := [(aw, .inl (cw, 6, .inr (.inr (.inr (.inr (tz_w w0 w1 w2 w3 w4 w5)))))), (w0, .inr (4, [])), (w1, .inr (1, [])), (w2, .inr (10, [])), (w3, .inr (3, [])), (w4, .inr (9, [])), (w5, .inr (8, []))]) (w1 := []) hP hD [0, 8] [1, 2, 3, 4, 5, 6, 7] rfl rfl (by decide) (by decide) hk1 hFc tz_P0 tz_D0
      generalize H1 = H at hP hS ⊢
      have hP : va_P (dC, dI) vwCl [(aw, .inl (cw, 6, .inr (.inr (.inr (.inr (tz_w w0 w1 w2 w3 w4 w5)))))), (w0, .inr (4, [])), (w1, .inr (1, [])), (w2, .inr (10, [])), (w3, .inr (3, [])), (w4, .inr (9, [])), (w5, .inr (8, []))] H := hP
      have hD : va_D A [(aw, .inl (cw, 6, .inr (.inr (.inr (.inr (tz_w w0 w1 w2 w3 w4 w5)))))), (w0, .inr (4, [])), (w1, .inr (1, [])), (w2, .inr (10, [])), (w3, .inr (3, [])), (w4, .inr (9, [])), (w5, .inr (8, []))] := hD
      obtain rfl : (-2) = r_39 := hw_40.symm
      exact W.iret (v := (-2)) hx hb hr (fun t ht hW => ⟨⟨(-2), (), rfl, (if_neg hc_5).symm, trivial⟩, hS.F ht⟩) hS.2.2 dX11_odds_25
    · exact absurd c_38 (by decide)
set_option maxRecDepth 20000 in
theorem ggX11_cause_X11_within : GoodIn wsX11_cause wsX11_within := goodIn_r _ [6] (by decide +kernel) (by decide +kernel)
set_option maxRecDepth 20000 in
theorem gX11_cause_X11_within : GoodIn wsX11_cause (va_wsS RX11 102 yX11_within wsX11_within) := goodIn_app (goodIn_of _ (by decide +kernel)) ggX11_cause_X11_within
set_option maxRecDepth 20000 in
theorem ggX11_cause_X6_isFull : GoodIn wsX11_cause wsX6_isFull := goodIn_r _ [20, 21, 22, 62, 63, 64, 65] (by decide +kernel) (by decide +kernel)
set_option maxRecDepth 20000 in
theorem gX11_cause_X6_isFull : GoodIn wsX11_cause (wsV RX11 113 RX6 yX6_isFull wsX6_isFull) := goodIn_app (goodIn_of _ (by decide +kernel)) ggX11_cause_X6_isFull
set_option maxRecDepth 20000 in
theorem ggX11_cause_X0_addCause : GoodIn wsX11_cause wsX0_addCause := goodIn_r _ [27, 28, 29, 30, 31, 19, 32, 21, 33, 17, 18, 20, 22, 34, 35, 36, 37, 38, 39, 40, 41, 42, 43, 56, 57, 58, 59, 60, 61, 62, 63, 64, 65] (by decide +kernel) (by decide +kernel)
set_option maxRecDepth 20000 in
theorem gX11_cause_X0_addCause : GoodIn wsX11_cause (wsV RX11 230 RX0 yX0_addCause wsX0_addCause) := goodIn_app (goodIn_of _ (by decide +kernel)) ggX11_cause_X0_addCause
set_option maxRecDepth 20000 in
theorem ggX11_cause_X11_refuse : GoodIn wsX11_cause wsX11_refuse := goodIn_r _ [10, 11, 12, 13, 5, 14, 15, 44, 45, 46, 47, 48, 49, 50, 51, 52, 53, 54, 55] (by decide +kernel) (by decide +kernel)
set_option maxRecDepth 20000 in
theorem gX11_cause_X11_refuse : GoodIn wsX11_cause (wsV RX11 106 RX11 yX11_refuse wsX11_refuse) := goodIn_app (goodIn_of _ (by decide +kernel)) ggX11_cause_X11_refuse
theorem dX11_cause_0 : decode cX11_cause 0 = .ok (.iload_n 1, 1) := by decide +kernel
theorem dX11_cause_1 : decode cX11_cause 1 = .ok (.bipush (-99), 2) := by decide +kernel
theorem dX11_cause_3 : decode cX11_cause 3 = .ok (.bipush 99, 2) := by decide +kernel
theorem dX11_cause_5 : decode cX11_cause 5 = .ok (.invokestatic 102, 3) := by decide +kernel
theorem dX11_cause_8 : decode cX11_cause 8 = .ok (.ifCond .eq 34, 3) := by decide +kernel
theorem dX11_cause_11 : decode cX11_cause 11 = .ok (.iload_n 2, 1) := by decide +kernel
theorem dX11_cause_12 : decode cX11_cause 12 = .ok (.iconst 1, 1) := by decide +kernel
theorem dX11_cause_13 : decode cX11_cause 13 = .ok (.bipush 20, 2) := by decide +kernel
theorem dX11_cause_15 : decode cX11_cause 15 = .ok (.invokestatic 102, 3) := by decide +kernel
theorem dX11_cause_18 : decode cX11_cause 18 = .ok (.ifCond .eq 24, 3) := by decide +kernel
theorem dX11_cause_21 : decode cX11_cause 21 = .ok (.iload_n 3, 1) := by decide +kernel
theorem dX11_cause_22 : decode cX11_cause 22 = .ok (.iconst 0, 1) := by decide +kernel
theorem dX11_cause_23 : decode cX11_cause 23 = .ok (.bipush 30, 2) := by decide +kernel
theorem dX11_cause_25 : decode cX11_cause 25 = .ok (.invokestatic 102, 3) := by decide +kernel
theorem dX11_cause_28 : decode cX11_cause 28 = .ok (.ifCond .eq 14, 3) := by decide +kernel
theorem dX11_cause_31 : decode cX11_cause 31 = .ok (.iload 4, 2) := by decide +kernel
theorem dX11_cause_33 : decode cX11_cause 33 = .ok (.iconst 0, 1) := by decide +kernel
theorem dX11_cause_34 : decode cX11_cause 34 = .ok (.bipush 10, 2) := by decide +kernel
theorem dX11_cause_36 : decode cX11_cause 36 = .ok (.invokestatic 102, 3) := by decide +kernel
theorem dX11_cause_39 : decode cX11_cause 39 = .ok (.ifCond .ne 10, 3) := by decide +kernel
theorem dX11_cause_49 : decode cX11_cause 49 = .ok (.aload_n 0, 1) := by decide +kernel
theorem dX11_cause_50 : decode cX11_cause 50 = .ok (.getfield 34, 3) := by decide +kernel
theorem dX11_cause_53 : decode cX11_cause 53 = .ok (.getfield 227, 3) := by decide +kernel
theorem dX11_cause_56 : decode cX11_cause 56 = .ok (.invokevirtual 113, 3) := by decide +kernel
theorem dX11_cause_59 : decode cX11_cause 59 = .ok (.ifCond .eq 10, 3) := by decide +kernel
theorem dX11_cause_69 : decode cX11_cause 69 = .ok (.aload_n 0, 1) := by decide +kernel
theorem dX11_cause_70 : decode cX11_cause 70 = .ok (.getfield 34, 3) := by decide +kernel
theorem dX11_cause_73 : decode cX11_cause 73 = .ok (.iload_n 1, 1) := by decide +kernel
theorem dX11_cause_74 : decode cX11_cause 74 = .ok (.iload_n 2, 1) := by decide +kernel
theorem dX11_cause_75 : decode cX11_cause 75 = .ok (.iload_n 3, 1) := by decide +kernel
theorem dX11_cause_76 : decode cX11_cause 76 = .ok (.iload 4, 2) := by decide +kernel
theorem dX11_cause_78 : decode cX11_cause 78 = .ok (.invokevirtual 230, 3) := by decide +kernel
theorem dX11_cause_81 : decode cX11_cause 81 = .ok (.ireturn, 1) := by decide +kernel
theorem dX11_cause_42 : decode cX11_cause 42 = .ok (.aload_n 0, 1) := by decide +kernel
theorem dX11_cause_43 : decode cX11_cause 43 = .ok (.bipush (-2), 2) := by decide +kernel
theorem dX11_cause_45 : decode cX11_cause 45 = .ok (.invokevirtual 106, 3) := by decide +kernel
theorem dX11_cause_48 : decode cX11_cause 48 = .ok (.ireturn, 1) := by decide +kernel
set_option maxRecDepth 20000 in
theorem iw_k_x_cause_X11 : ∀ w ∈ wsX110, w ∈ wsX11_cause := by decide +kernel
set_option maxRecDepth 20000 in
theorem iw_k_x_cause_X0 : ∀ w ∈ wsX00, w ∈ wsX11_cause := by decide +kernel
set_option maxHeartbeats 4000000 in
set_option maxRecDepth 100000 in
theorem k_x_cause (l : Launch) (dC : Nat → ClassId) (dI : Nat → Nat → Nat) (o : Nat) (aw : Nat) (bk : Nat) (ai : Nat) (ak : Nat) (sc : Nat) (rd : Nat) (fo : Nat) (tx : Nat) (ar : Nat) (atr : Nat) (ao : Nat) (rk0 : Nat) (rk1 : Nat) (rk2 : Nat) (rk3 : Nat) (eak : Nat) (cak3 : Nat) (cck3 : ClassId) (cr : ClassId) (na : Int32) (nb : Int32) (nc : Int32) (nd : Int32) (sz : Nat) : Met l yX11_cause wsX11_cause ({ frames := 3, cells := 0, slots := 0, locals := 70 }) (va_Pc [.ref o, .int na, .int nb, .int nc, .int nd] (fun U => U.heap.size = sz ∧ va_P (dC, dI) vwCl [(o, .inr (11, [.ref aw, .ref bk, .ref ai, .ref ak, .ref sc, .ref rd, .ref fo, .ref tx, .int 0, .ref ar, .ref atr, .ref ao])), (bk, .inr (0, [.ref rk0, .ref rk1, .ref rk2, .ref rk3, .ref eak, .int 0])), (rk3, .inr (6, [.int 4, .int 6, .ref cak3, .int 0])), (cak3, .inl (cck3, 24, .inl (fun _ => 0))), (ar, .inl (cr, 3, .inl (fun _ => 0)))] U.heap ∧ va_K (dC, dI) vwCl [(cck3, .int), (cr, .int)] U ∧ va_D (fun _ => True) [(o, .inr (11, [.ref aw, .ref bk, .ref ai, .ref ak, .ref sc, .ref rd, .ref fo, .ref tx, .int 0, .ref ar, .ref atr, .ref ao])), (bk, .inr (0, [.ref rk0, .ref rk1, .ref rk2, .ref rk3, .ref eak, .int 0])), (rk3, .inr (6, [.int 4, .int 6, .ref cak3, .int 0])), (cak3, .inl (cck3, 24, .inl (fun _ => 0))), (ar, .inl (cr, 3, .inl (fun _ => 0)))])) (va_Qi (fun (r : Int32) (_ : Unit) => r = (if (-99) ≤ na ∧ na ≤ 99 then (if 1 ≤ nb ∧ nb ≤ 20 then (if 0 ≤ nc ∧ nc ≤ 30 then (if 0 ≤ nd ∧ nd ≤ 10 then 0 else (-2)) else (-2)) else (-2)) else (-2))) (fun _ _ => True) (va_A [(o, .inr (11, [.ref aw, .ref bk, .ref ai, .ref ak, .ref sc, .ref rd, .ref fo, .ref tx, .int 0, .ref ar, .ref atr, .ref ao])), (bk, .inr (0, [.ref rk0, .ref rk1, .ref rk2, .ref rk3, .ref eak, .int 0])), (rk3, .inr (6, [.int 4, .int 6, .ref cak3, .int 0])), (cak3, .inl (cck3, 24, .inl (fun _ => 0))), (ar, .inl (cr, 3, .inl (fun _ => 0)))] sz)) 0 0 (va_A [(o, .inr (11, [.ref aw, .ref bk, .ref ai, .ref ak, .ref sc, .ref rd, .ref fo, .ref tx, .int 0, .ref ar, .ref atr, .ref ao])), (bk, .inr (0, [.ref rk0, .ref rk1, .ref rk2, .ref rk3, .ref eak, .int 0])), (rk3, .inr (6, [.int 4, .int 6, .ref cak3, .int 0])), (cak3, .inl (cck3, 24, .inl (fun _ => 0))), (ar, .inl (cr, 3, .inl (fun _ => 0)))] sz) := by
  refine Met.ofW (cc := cX11_cause) (maxL := 5) (ret := (some .int)) (by decide) rfl ?_
  intro p e s m args below meth c s₁ B hml hv
  obtain ⟨rfl, hsz, hP, hK, hD0⟩ := hv
  have hx := B.exec
  have hb := B.bytes
  have hr := B.returns
  have hts := atoms_spec (ws := wsX11_cause) B.pre
  have hown : s.vm.findClass RX11 = some m.cls := findClass_of_methodNamed B.named
  have hlocks := B.notSynchronized
  subst hsz
  have hD := hD0.self (sz := s.heap.size)
  generalize hAe : va_A [(o, .inr (11, [.ref aw, .ref bk, .ref ai, .ref ak, .ref sc, .ref rd, .ref fo, .ref tx, .int 0, .ref ar, .ref atr, .ref ao])), (bk, .inr (0, [.ref rk0, .ref rk1, .ref rk2, .ref rk3, .ref eak, .int 0])), (rk3, .inr (6, [.int 4, .int 6, .ref cak3, .int 0])), (cak3, .inl (cck3, 24, .inl (fun _ => 0))), (ar, .inl (cr, 3, .inl (fun _ => 0)))] s.heap.size = A at hD ⊢
  have hA : ∀ q : Nat, s.heap.size ≤ q → A q := fun q h => by rw [← hAe]; exact Or.inr h
  have hS : va_S A s.heap s.heap [] := va_S.rf
  have hP : va_P (dC, dI) vwCl [(o, .inr (11, [.ref aw, .ref bk, .ref ai, .ref ak, .ref sc, .ref rd, .ref fo, .ref tx, .int 0, .ref ar, .ref atr, .ref ao])), (bk, .inr (0, [.ref rk0, .ref rk1, .ref rk2, .ref rk3, .ref eak, .int 0])), (rk3, .inr (6, [.int 4, .int 6, .ref cak3, .int 0])), (cak3, .inl (cck3, 24, .inl (fun _ => 0))), (ar, .inl (cr, 3, .inl (fun _ => 0)))] s.heap := hP
  have hl := lv_entry ([.ref o, .int na, .int nb, .int nc, .int nd]) (n := 5) (Nat.le_of_ble_eq_true rfl)
  rw [lg_entry_eq]
  generalize (lg_sl ([.ref o, .int na, .int nb, .int nc, .int nd]) ++ List.replicate (5 - (lg_sl ([.ref o, .int na, .int nb, .int nc, .int nd])).length) Slot.unset).toArray = ls at hl ⊢
  have hl : lv_has ls 5 [(0, .ref o), (1, .int na), (2, .int nb), (3, .int nc), (4, .int nd)] := hl
  refine lv_iload_n hx hb dX11_cause_0 rfl (lv_at hl 1 rfl) ?_
  refine lv_bipush (v := (-99)) hx hb dX11_cause_1 (by decide) ?_
  refine lv_bipush (v := 99) hx hb dX11_cause_3 (by decide) ?_
  refine vp_callSi (va_Run.run (va_runS (As := [.int na, .int (-99), .int 99]) (rest := []) ⟨hx, hb, hml, hown, hts⟩ (k_within l dC dI na (-99) 99) (va_cwS 3 hts gX11_cause_X11_within rfl rfl rfl (by decide +kernel) ⟨Nat.le_of_ble_eq_true rfl, Nat.le_of_ble_eq_true rfl⟩) ⟨fun a U g mk q => ⟨q.1, trivial⟩, fun U hU hW => ⟨rfl, trivial⟩⟩ rfl rfl hl.1 rfl (lv_room (Nat.le_of_ble_eq_true rfl)) dX11_cause_5 ⟨Nat.le_of_ble_eq_true rfl, Nat.le_of_ble_eq_true rfl⟩)) (fun r_1 hw_2 => ?_)
  by_cases hc_3 : (-99) ≤ na ∧ na ≤ 99
  · obtain rfl : 1 = r_1 := (hw_2.trans (if_pos hc_3)).symm
    refine lv_if_eq (tgt := 42) hx hb dX11_cause_8 (by decide) (fun c_4 => ?_) (fun c_4 => ?_)
    · exact absurd c_4 (by decide)
    · refine lv_iload_n hx hb dX11_cause_11 rfl (lv_at hl 2 rfl) ?_
      refine lv_iconst (v := 1) hx hb dX11_cause_12 (by decide) ?_
      refine lv_bipush (v := 20) hx hb dX11_cause_13 (by decide) ?_
      refine vp_callSi (va_Run.run (va_runS (As := [.int nb, .int 1, .int 20]) (rest := []) ⟨hx, hb, hml, hown, hts⟩ (k_within l dC dI nb 1 20) (va_cwS 3 hts gX11_cause_X11_within rfl rfl rfl (by decide +kernel) ⟨Nat.le_of_ble_eq_true rfl, Nat.le_of_ble_eq_true rfl⟩) ⟨fun a U g mk q => ⟨q.1, trivial⟩, fun U hU hW => ⟨rfl, trivial⟩⟩ rfl rfl hl.1 rfl (lv_room (Nat.le_of_ble_eq_true rfl)) dX11_cause_15 ⟨Nat.le_of_ble_eq_true rfl, Nat.le_of_ble_eq_true rfl⟩)) (fun r_5 hw_6 => ?_)
      by_cases hc_7 : 1 ≤ nb ∧ nb ≤ 20
      · obtain rfl : 1 = r_5 := (hw_6.trans (if_pos hc_7)).symm
        refine lv_if_eq (tgt := 42) hx hb dX11_cause_18 (by decide) (fun c_8 => ?_) (fun c_8 => ?_)
        · exact absurd c_8 (by decide)
        · refine lv_iload_n hx hb dX11_cause_21 rfl (lv_at hl 3 rfl) ?_
          refine lv_iconst (v := 0) hx hb dX11_cause_22 (by decide) ?_
          refine lv_bipush (v := 30) hx hb dX11_cause_23 (by decide) ?_
          refine vp_callSi (va_Run.run (va_runS (As := [.int nc, .int 0, .int 30]) (rest := []) ⟨hx, hb, hml, hown, hts⟩ (k_within l dC dI nc 0 30) (va_cwS 3 hts gX11_cause_X11_within rfl rfl rfl (by decide +kernel) ⟨Nat.le_of_ble_eq_true rfl, Nat.le_of_ble_eq_true rfl⟩) ⟨fun a U g mk q => ⟨q.1, trivial⟩, fun U hU hW => ⟨rfl, trivial⟩⟩ rfl rfl hl.1 rfl (lv_room (Nat.le_of_ble_eq_true rfl)) dX11_cause_25 ⟨Nat.le_of_ble_eq_true rfl, Nat.le_of_ble_eq_true rfl⟩)) (fun r_9 hw_10 => ?_)
          by_cases hc_11 : 0 ≤ nc ∧ nc ≤ 30
          · obtain rfl : 1 = r_9 := (hw_10.trans (if_pos hc_11)).symm
            refine lv_if_eq (tgt := 42) hx hb dX11_cause_28 (by decide) (fun c_12 => ?_) (fun c_12 => ?_)
            · exact absurd c_12 (by decide)
            · refine lv_iload hx hb dX11_cause_31 (lv_at hl 4 rfl) ?_
              refine lv_iconst (v := 0) hx hb dX11_cause_33 (by decide) ?_
              refine lv_bipush (v := 10) hx hb dX11_cause_34 (by decide) ?_
              refine vp_callSi (va_Run.run (va_runS (As := [.int nd, .int 0, .int 10]) (rest := []) ⟨hx, hb, hml, hown, hts⟩ (k_within l dC dI nd 0 10) (va_cwS 3 hts gX11_cause_X11_within rfl rfl rfl (by decide +kernel) ⟨Nat.le_of_ble_eq_true rfl, Nat.le_of_ble_eq_true rfl⟩) ⟨fun a U g mk q => ⟨q.1, trivial⟩, fun U hU hW => ⟨rfl, trivial⟩⟩ rfl rfl hl.1 rfl (lv_room (Nat.le_of_ble_eq_true rfl)) dX11_cause_36 ⟨Nat.le_of_ble_eq_true rfl, Nat.le_of_ble_eq_true rfl⟩)) (fun r_13 hw_14 => ?_)
              by_cases hc_15 : 0 ≤ nd ∧ nd ≤ 10
              · obtain rfl : 1 = r_13 := (hw_14.trans (if_pos hc_15)).symm
                refine lv_if_ne (tgt := 49) hx hb dX11_cause_39 (by decide) (fun c_16 => ?_) (fun c_16 => ?_)
                · refine lv_aload_n hx hb dX11_cause_49 rfl (lv_at hl 0 rfl) ?_
                  refine va_get (D := (dC, dI)) (ci := 11) (v := .ref bk) (C := RX11) (T := TX11) (N := 12) hx hb hts iw_k_x_cause_X11 hown hK hP 0 rfl rfl 1 (by decide) (hts (.fieldLink RX11 34 "ThriceCounted" "bank" "LThriceCounted$Bank;") (by decide +kernel)) (fun _ h9 => h9) rfl dX11_cause_50 ?_
                  refine va_get (D := (dC, dI)) (ci := 0) (v := .ref rk3) (C := RX0) (T := TX0) (N := 6) hx hb hts iw_k_x_cause_X0 hown hK hP 1 rfl rfl 3 (by decide) (hts (.fieldLink RX11 227 "ThriceCounted$Bank" "causes" "LThriceCounted$Rows;") (by decide +kernel)) (fun _ h9 => h9) rfl dX11_cause_53 ?_
                  have hPc_17 := hP.sub (ws' := [(rk3, .inr (6, [.int 4, .int 6, .ref cak3, .int 0]))]) [2] rfl
                  have hKc_18 := hK.sub (tys' := []) [] rfl
                  refine vp_callSi (va_Run.run (va_runV (As := []) (rest := []) ⟨hx, hb, hml, hown, hts⟩ (k_isFull0 l dC dI rk3 (.int 4) 6 (.ref cak3) (by decide)) (cwV 0 hts gX11_cause_X6_isFull rfl rfl rfl (by decide +kernel) ⟨Nat.le_of_ble_eq_true rfl, Nat.le_of_ble_eq_true rfl⟩) ⟨fun a U g mk q => by obtain ⟨q0, qP, qK⟩ := q; exact ⟨q0, qP, va_K.moved (u := U) (U := U.calling g mk a) (Vm.Alike.refl U.vm) qK⟩, va_recv hK hP (ci := 6) (q0 := 2) rfl rfl, fun U hU hW => ⟨rfl, by rw [hU]; exact hPc_17, va_K.moved hW.alike hKc_18⟩⟩ rfl rfl hl.1 rfl (lv_room (Nat.le_of_ble_eq_true rfl)) dX11_cause_56 ⟨Nat.le_of_ble_eq_true rfl, Nat.le_of_ble_eq_true rfl⟩)) (fun r_19 hw_20 => ?_)
                  obtain rfl : 0 = r_19 := hw_20.symm
                  refine lv_if_eq (tgt := 69) hx hb dX11_cause_59 (by decide) (fun c_21 => ?_) (fun c_21 => ?_)
                  · refine lv_aload_n hx hb dX11_cause_69 rfl (lv_at hl 0 rfl) ?_
                    refine va_get (D := (dC, dI)) (ci := 11) (v := .ref bk) (C := RX11) (T := TX11) (N := 12) hx hb hts iw_k_x_cause_X11 hown hK hP 0 rfl rfl 1 (by decide) (hts (.fieldLink RX11 34 "ThriceCounted" "bank" "LThriceCounted$Bank;") (by decide +kernel)) (fun _ h9 => h9) rfl dX11_cause_70 ?_
                    refine lv_iload_n hx hb dX11_cause_73 rfl (lv_at hl 1 rfl) ?_
                    refine lv_iload_n hx hb dX11_cause_74 rfl (lv_at hl 2 rfl) ?_
                    refine lv_iload_n hx hb dX11_cause_75 rfl (lv_at hl 3 rfl) ?_
                    refine lv_iload hx hb dX11_cause_76 (lv_at hl 4 rfl) ?_
                    have hPc := hP.sub (ws' := [(bk, .inr (0, [.ref rk0, .ref rk1, .ref rk2, .ref rk3, .ref eak, .int 0])), (rk3, .inr (6, [.int 4, .int 6, .ref cak3, .int 0])), (cak3, .inl (cck3, 24, .inl (fun _ => 0)))]) [1, 2, 3] rfl
                    have hDc := hD.sub (ws' := [(bk, .inr (0, [.ref rk0, .ref rk1, .ref rk2, .ref rk3, .ref eak, .int 0])), (rk3, .inr (6, [.int 4, .int 6, .ref cak3, .int 0])), (cak3, .inl (cck3, 24, .inl (fun _ => 0)))]) [1, 2, 3] (by decide) rfl
                    have hKc := hK.sub (tys' := [(cck3, .int)]) [0] rfl
                    have hFc := va_free (wc := [(bk, .inr (0, [.ref rk0, .ref rk1, .ref rk2, .ref rk3, .ref eak, .int 0])), (rk3, .inr (6, [.int 4, .int 6, .ref cak3, .int 0])), (cak3, .inl (cck3, 24, .inl (fun _ => 0)))]) hD hS hA [1, 2, 3] rfl
                    refine va_calli (va_runV (As := [.int na, .int nb, .int nc, .int nd]) (rest := []) ⟨hx, hb, hml, hown, hts⟩ (k_addCause l dC dI bk (.ref rk0) (.ref rk1) (.ref rk2) rk3 (.ref eak) (.int 0) cak3 cck3 (fun _ => 0) na nb nc nd s.heap.size) (cwV 4 hts gX11_cause_X0_addCause rfl rfl rfl (by decide +kernel) ⟨Nat.le_of_ble_eq_true rfl, Nat.le_of_ble_eq_true rfl⟩) ⟨fun a U g mk q => by obtain ⟨q0, q1, qP, qK, qD⟩ := q; exact ⟨q0, q1, qP, va_K.moved (u := U) (U := U.calling g mk a) (Vm.Alike.refl U.vm) qK, qD⟩, va_recv hK hP (ci := 0) (q0 := 1) rfl rfl, fun U hU hW => ⟨rfl, by rw [hU], by rw [hU]; exact hPc, va_K.moved hW.alike hKc, hDc.weaken (fun _ _ _ _ => trivial)⟩⟩ rfl rfl hl.1 rfl (lv_room (Nat.le_of_ble_eq_true rfl)) dX11_cause_78 ⟨Nat.le_of_ble_eq_true rfl, Nat.le_of_ble_eq_true rfl⟩) hS (fun q _ h => hFc q h) hFc (fun r_22 u_ t H1 locs ht hvm hw_23 hB hz1 hk1 hS => ?_)
                    obtain ⟨hP, hD⟩ := va_join (wr := [(o, .inr (11, [.ref aw, .ref bk, .ref ai, .ref ak, .ref sc, .ref rd, .ref fo, .ref tx, .int 0, .ref ar, .ref atr, .ref ao])), (ar, .inl (cr, 3, .inl (fun _ => 0)))]) (w1 := []) hP hD [1, 2, 3] [0, 4] rfl rfl (by decide) (by decide) hk1 hFc tz_P0 tz_D0
                    generalize H1 = H at hP hS ⊢
                    have hP : va_P (dC, dI) vwCl [(o, .inr (11, [.ref aw, .ref bk, .ref ai, .ref ak, .ref sc, .ref rd, .ref fo, .ref tx, .int 0, .ref ar, .ref atr, .ref ao])), (ar, .inl (cr, 3, .inl (fun _ => 0)))] H := hP
                    have hD : va_D A [(o, .inr (11, [.ref aw, .ref bk, .ref ai, .ref ak, .ref sc, .ref rd, .ref fo, .ref tx, .int 0, .ref ar, .ref atr, .ref ao])), (ar, .inl (cr, 3, .inl (fun _ => 0)))] := hD
                    obtain rfl : 0 = r_22 := hw_23.symm
                    exact W.iret (v := 0) hx hb hr (fun t ht hW => ⟨⟨0, (), rfl, ((if_pos hc_3).trans ((if_pos hc_7).trans ((if_pos hc_11).trans (if_pos hc_15)))).symm, trivial⟩, hS.F ht⟩) hS.2.2 dX11_cause_81
                  · exact absurd c_21 (by decide)
                · exact absurd c_16 (by decide)
              · obtain rfl : 0 = r_13 := (hw_14.trans (if_neg hc_15)).symm
                refine lv_if_ne (tgt := 49) hx hb dX11_cause_39 (by decide) (fun c_24 => ?_) (fun c_24 => ?_)
                · exact absurd c_24 (by decide)
                · refine lv_aload_n hx hb dX11_cause_42 rfl (lv_at hl 0 rfl) ?_
                  refine lv_bipush (v := (-2)) hx hb dX11_cause_43 (by decide) ?_
                  have hPc := hP.sub (ws' := [(o, .inr (11, [.ref aw, .ref bk, .ref ai, .ref ak, .ref sc, .ref rd, .ref fo, .ref tx, .int 0, .ref ar, .ref atr, .ref ao])), (ar, .inl (cr, 3, .inl (fun _ => 0)))]) [0, 4] rfl
                  have hDc := hD.sub (ws' := [(o, .inr (11, [.ref aw, .ref bk, .ref ai, .ref ak, .ref sc, .ref rd, .ref fo, .ref tx, .int 0, .ref ar, .ref atr, .ref ao])), (ar, .inl (cr, 3, .inl (fun _ => 0)))]) [0, 4] (by decide) rfl
                  have hKc := hK.sub (tys' := [(cr, .int)]) [1] rfl
                  have hFc := va_free (wc := [(o, .inr (11, [.ref aw, .ref bk, .ref ai, .ref ak, .ref sc, .ref rd, .ref fo, .ref tx, .int 0, .ref ar, .ref atr, .ref ao])), (ar, .inl (cr, 3, .inl (fun _ => 0)))]) hD hS hA [0, 4] rfl
                  refine va_calli (va_runV (As := [.int (-2)]) (rest := []) ⟨hx, hb, hml, hown, hts⟩ (k_refuse l dC dI o (.ref aw) (.ref bk) (.ref ai) (.ref ak) (.ref sc) (.ref rd) (.ref fo) (.ref tx) (.int 0) ar (.ref atr) (.ref ao) cr (fun _ => 0) (-2) s.heap.size) (cwV 1 hts gX11_cause_X11_refuse rfl rfl rfl (by decide +kernel) ⟨Nat.le_of_ble_eq_true rfl, Nat.le_of_ble_eq_true rfl⟩) ⟨fun a U g mk q => by obtain ⟨q0, q1, qP, qK, qD⟩ := q; exact ⟨q0, q1, qP, va_K.moved (u := U) (U := U.calling g mk a) (Vm.Alike.refl U.vm) qK, qD⟩, va_recv hK hP (ci := 11) (q0 := 0) rfl rfl, fun U hU hW => ⟨rfl, by rw [hU], by rw [hU]; exact hPc, va_K.moved hW.alike hKc, hDc.weaken (fun _ _ _ _ => trivial)⟩⟩ rfl rfl hl.1 rfl (lv_room (Nat.le_of_ble_eq_true rfl)) dX11_cause_45 ⟨Nat.le_of_ble_eq_true rfl, Nat.le_of_ble_eq_true rfl⟩) hS (fun q _ h => hFc q h) hFc (fun r_25 u_ t H1 locs ht hvm hw_26 hB hz1 hk1 hS => ?_)
                  obtain ⟨hP, hD⟩ := va_join (wr := [(bk, .inr (0, [.ref rk0, .ref rk1, .ref rk2, .ref rk3, .ref eak, .int 0])), (rk3, .inr (6, [.int 4, .int 6, .ref cak3, .int 0])), (cak3, .inl (cck3, 24, .inl (fun _ => 0)))]) (w1 := []) hP hD [0, 4] [1, 2, 3] rfl rfl (by decide) (by decide) hk1 hFc tz_P0 tz_D0
                  generalize H1 = H at hP hS ⊢
                  have hP : va_P (dC, dI) vwCl [(bk, .inr (0, [.ref rk0, .ref rk1, .ref rk2, .ref rk3, .ref eak, .int 0])), (rk3, .inr (6, [.int 4, .int 6, .ref cak3, .int 0])), (cak3, .inl (cck3, 24, .inl (fun _ => 0)))] H := hP
                  have hD : va_D A [(bk, .inr (0, [.ref rk0, .ref rk1, .ref rk2, .ref rk3, .ref eak, .int 0])), (rk3, .inr (6, [.int 4, .int 6, .ref cak3, .int 0])), (cak3, .inl (cck3, 24, .inl (fun _ => 0)))] := hD
                  obtain rfl : (-2) = r_25 := hw_26.symm
                  exact W.iret (v := (-2)) hx hb hr (fun t ht hW => ⟨⟨(-2), (), rfl, ((if_pos hc_3).trans ((if_pos hc_7).trans ((if_pos hc_11).trans (if_neg hc_15)))).symm, trivial⟩, hS.F ht⟩) hS.2.2 dX11_cause_48
          · obtain rfl : 0 = r_9 := (hw_10.trans (if_neg hc_11)).symm
            refine lv_if_eq (tgt := 42) hx hb dX11_cause_28 (by decide) (fun c_27 => ?_) (fun c_27 => ?_)
            · refine lv_aload_n hx hb dX11_cause_42 rfl (lv_at hl 0 rfl) ?_
              refine lv_bipush (v := (-2)) hx hb dX11_cause_43 (by decide) ?_
              have hPc := hP.sub (ws' := [(o, .inr (11, [.ref aw, .ref bk, .ref ai, .ref ak, .ref sc, .ref rd, .ref fo, .ref tx, .int 0, .ref ar, .ref atr, .ref ao])), (ar, .inl (cr, 3, .inl (fun _ => 0)))]) [0, 4] rfl
              have hDc := hD.sub (ws' := [(o, .inr (11, [.ref aw, .ref bk, .ref ai, .ref ak, .ref sc, .ref rd, .ref fo, .ref tx, .int 0, .ref ar, .ref atr, .ref ao])), (ar, .inl (cr, 3, .inl (fun _ => 0)))]) [0, 4] (by decide) rfl
              have hKc := hK.sub (tys' := [(cr, .int)]) [1] rfl
              have hFc := va_free (wc := [(o, .inr (11, [.ref aw, .ref bk, .ref ai, .ref ak, .ref sc, .ref rd, .ref fo, .ref tx, .int 0, .ref ar, .ref atr, .ref ao])), (ar, .inl (cr, 3, .inl (fun _ => 0)))]) hD hS hA [0, 4] rfl
              refine va_calli (va_runV (As := [.int (-2)]) (rest := []) ⟨hx, hb, hml, hown, hts⟩ (k_refuse l dC dI o (.ref aw) (.ref bk) (.ref ai) (.ref ak) (.ref sc) (.ref rd) (.ref fo) (.ref tx) (.int 0) ar (.ref atr) (.ref ao) cr (fun _ => 0) (-2) s.heap.size) (cwV 1 hts gX11_cause_X11_refuse rfl rfl rfl (by decide +kernel) ⟨Nat.le_of_ble_eq_true rfl, Nat.le_of_ble_eq_true rfl⟩) ⟨fun a U g mk q => by obtain ⟨q0, q1, qP, qK, qD⟩ := q; exact ⟨q0, q1, qP, va_K.moved (u := U) (U := U.calling g mk a) (Vm.Alike.refl U.vm) qK, qD⟩, va_recv hK hP (ci := 11) (q0 := 0) rfl rfl, fun U hU hW => ⟨rfl, by rw [hU], by rw [hU]; exact hPc, va_K.moved hW.alike hKc, hDc.weaken (fun _ _ _ _ => trivial)⟩⟩ rfl rfl hl.1 rfl (lv_room (Nat.le_of_ble_eq_true rfl)) dX11_cause_45 ⟨Nat.le_of_ble_eq_true rfl, Nat.le_of_ble_eq_true rfl⟩) hS (fun q _ h => hFc q h) hFc (fun r_28 u_ t H1 locs ht hvm hw_29 hB hz1 hk1 hS => ?_)
              obtain ⟨hP, hD⟩ := va_join (wr := [(bk, .inr (0, [.ref rk0, .ref rk1, .ref rk2, .ref rk3, .ref eak, .int 0])), (rk3, .inr (6, [.int 4, .int 6, .ref cak3, .int 0])), (cak3, .inl (cck3, 24, .inl (fun _ => 0)))]) (w1 := []) hP hD [0, 4] [1, 2, 3] rfl rfl (by decide) (by decide) hk1 hFc tz_P0 tz_D0
              generalize H1 = H at hP hS ⊢
              have hP : va_P (dC, dI) vwCl [(bk, .inr (0, [.ref rk0, .ref rk1, .ref rk2, .ref rk3, .ref eak, .int 0])), (rk3, .inr (6, [.int 4, .int 6, .ref cak3, .int 0])), (cak3, .inl (cck3, 24, .inl (fun _ => 0)))] H := hP
              have hD : va_D A [(bk, .inr (0, [.ref rk0, .ref rk1, .ref rk2, .ref rk3, .ref eak, .int 0])), (rk3, .inr (6, [.int 4, .int 6, .ref cak3, .int 0])), (cak3, .inl (cck3, 24, .inl (fun _ => 0)))] := hD
              obtain rfl : (-2) = r_28 := hw_29.symm
              exact W.iret (v := (-2)) hx hb hr (fun t ht hW => ⟨⟨(-2), (), rfl, ((if_pos hc_3).trans ((if_pos hc_7).trans (if_neg hc_11))).symm, trivial⟩, hS.F ht⟩) hS.2.2 dX11_cause_48
            · exact absurd c_27 (by decide)
      · obtain rfl : 0 = r_5 := (hw_6.trans (if_neg hc_7)).symm
        refine lv_if_eq (tgt := 42) hx hb dX11_cause_18 (by decide) (fun c_30 => ?_) (fun c_30 => ?_)
        · refine lv_aload_n hx hb dX11_cause_42 rfl (lv_at hl 0 rfl) ?_
          refine lv_bipush (v := (-2)) hx hb dX11_cause_43 (by decide) ?_
          have hPc := hP.sub (ws' := [(o, .inr (11, [.ref aw, .ref bk, .ref ai, .ref ak, .ref sc, .ref rd, .ref fo, .ref tx, .int 0, .ref ar, .ref atr, .ref ao])), (ar, .inl (cr, 3, .inl (fun _ => 0)))]) [0, 4] rfl
          have hDc := hD.sub (ws' := [(o, .inr (11, [.ref aw, .ref bk, .ref ai, .ref ak, .ref sc, .ref rd, .ref fo, .ref tx, .int 0, .ref ar, .ref atr, .ref ao])), (ar, .inl (cr, 3, .inl (fun _ => 0)))]) [0, 4] (by decide) rfl
          have hKc := hK.sub (tys' := [(cr, .int)]) [1] rfl
          have hFc := va_free (wc := [(o, .inr (11, [.ref aw, .ref bk, .ref ai, .ref ak, .ref sc, .ref rd, .ref fo, .ref tx, .int 0, .ref ar, .ref atr, .ref ao])), (ar, .inl (cr, 3, .inl (fun _ => 0)))]) hD hS hA [0, 4] rfl
          refine va_calli (va_runV (As := [.int (-2)]) (rest := []) ⟨hx, hb, hml, hown, hts⟩ (k_refuse l dC dI o (.ref aw) (.ref bk) (.ref ai) (.ref ak) (.ref sc) (.ref rd) (.ref fo) (.ref tx) (.int 0) ar (.ref atr) (.ref ao) cr (fun _ => 0) (-2) s.heap.size) (cwV 1 hts gX11_cause_X11_refuse rfl rfl rfl (by decide +kernel) ⟨Nat.le_of_ble_eq_true rfl, Nat.le_of_ble_eq_true rfl⟩) ⟨fun a U g mk q => by obtain ⟨q0, q1, qP, qK, qD⟩ := q; exact ⟨q0, q1, qP, va_K.moved (u := U) (U := U.calling g mk a) (Vm.Alike.refl U.vm) qK, qD⟩, va_recv hK hP (ci := 11) (q0 := 0) rfl rfl, fun U hU hW => ⟨rfl, by rw [hU], by rw [hU]; exact hPc, va_K.moved hW.alike hKc, hDc.weaken (fun _ _ _ _ => trivial)⟩⟩ rfl rfl hl.1 rfl (lv_room (Nat.le_of_ble_eq_true rfl)) dX11_cause_45 ⟨Nat.le_of_ble_eq_true rfl, Nat.le_of_ble_eq_true rfl⟩) hS (fun q _ h => hFc q h) hFc (fun r_31 u_ t H1 locs ht hvm hw_32 hB hz1 hk1 hS => ?_)
          obtain ⟨hP, hD⟩ := va_join (wr := [(bk, .inr (0, [.ref rk0, .ref rk1, .ref rk2, .ref rk3, .ref eak, .int 0])), (rk3, .inr (6, [.int 4, .int 6, .ref cak3, .int 0])), (cak3, .inl (cck3, 24, .inl (fun _ => 0)))]) (w1 := []) hP hD [0, 4] [1, 2, 3] rfl rfl (by decide) (by decide) hk1 hFc tz_P0 tz_D0
          generalize H1 = H at hP hS ⊢
          have hP : va_P (dC, dI) vwCl [(bk, .inr (0, [.ref rk0, .ref rk1, .ref rk2, .ref rk3, .ref eak, .int 0])), (rk3, .inr (6, [.int 4, .int 6, .ref cak3, .int 0])), (cak3, .inl (cck3, 24, .inl (fun _ => 0)))] H := hP
          have hD : va_D A [(bk, .inr (0, [.ref rk0, .ref rk1, .ref rk2, .ref rk3, .ref eak, .int 0])), (rk3, .inr (6, [.int 4, .int 6, .ref cak3, .int 0])), (cak3, .inl (cck3, 24, .inl (fun _ => 0)))] := hD
          obtain rfl : (-2) = r_31 := hw_32.symm
          exact W.iret (v := (-2)) hx hb hr (fun t ht hW => ⟨⟨(-2), (), rfl, ((if_pos hc_3).trans (if_neg hc_7)).symm, trivial⟩, hS.F ht⟩) hS.2.2 dX11_cause_48
        · exact absurd c_30 (by decide)
  · obtain rfl : 0 = r_1 := (hw_2.trans (if_neg hc_3)).symm
    refine lv_if_eq (tgt := 42) hx hb dX11_cause_8 (by decide) (fun c_33 => ?_) (fun c_33 => ?_)
    · refine lv_aload_n hx hb dX11_cause_42 rfl (lv_at hl 0 rfl) ?_
      refine lv_bipush (v := (-2)) hx hb dX11_cause_43 (by decide) ?_
      have hPc := hP.sub (ws' := [(o, .inr (11, [.ref aw, .ref bk, .ref ai, .ref ak, .ref sc, .ref rd, .ref fo, .ref tx, .int 0, .ref ar, .ref atr, .ref ao])), (ar, .inl (cr, 3, .inl (fun _ => 0)))]) [0, 4] rfl
      have hDc := hD.sub (ws' := [(o, .inr (11, [.ref aw, .ref bk, .ref ai, .ref ak, .ref sc, .ref rd, .ref fo, .ref tx, .int 0, .ref ar, .ref atr, .ref ao])), (ar, .inl (cr, 3, .inl (fun _ => 0)))]) [0, 4] (by decide) rfl
      have hKc := hK.sub (tys' := [(cr, .int)]) [1] rfl
      have hFc := va_free (wc := [(o, .inr (11, [.ref aw, .ref bk, .ref ai, .ref ak, .ref sc, .ref rd, .ref fo, .ref tx, .int 0, .ref ar, .ref atr, .ref ao])), (ar, .inl (cr, 3, .inl (fun _ => 0)))]) hD hS hA [0, 4] rfl
      refine va_calli (va_runV (As := [.int (-2)]) (rest := []) ⟨hx, hb, hml, hown, hts⟩ (k_refuse l dC dI o (.ref aw) (.ref bk) (.ref ai) (.ref ak) (.ref sc) (.ref rd) (.ref fo) (.ref tx) (.int 0) ar (.ref atr) (.ref ao) cr (fun _ => 0) (-2) s.heap.size) (cwV 1 hts gX11_cause_X11_refuse rfl rfl rfl (by decide +kernel) ⟨Nat.le_of_ble_eq_true rfl, Nat.le_of_ble_eq_true rfl⟩) ⟨fun a U g mk q => by obtain ⟨q0, q1, qP, qK, qD⟩ := q; exact ⟨q0, q1, qP, va_K.moved (u := U) (U := U.calling g mk a) (Vm.Alike.refl U.vm) qK, qD⟩, va_recv hK hP (ci := 11) (q0 := 0) rfl rfl, fun U hU hW => ⟨rfl, by rw [hU], by rw [hU]; exact hPc, va_K.moved hW.alike hKc, hDc.weaken (fun _ _ _ _ => trivial)⟩⟩ rfl rfl hl.1 rfl (lv_room (Nat.le_of_ble_eq_true rfl)) dX11_cause_45 ⟨Nat.le_of_ble_eq_true rfl, Nat.le_of_ble_eq_true rfl⟩) hS (fun q _ h => hFc q h) hFc (fun r_34 u_ t H1 locs ht hvm hw_35 hB hz1 hk1 hS => ?_)
      obtain ⟨hP, hD⟩ := va_join (wr := [(bk, .inr (0, [.ref rk0, .ref rk1, .ref rk2, .ref rk3, .ref eak, .int 0])), (rk3, .inr (6, [.int 4, .int 6, .ref cak3, .int 0])), (cak3, .inl (cck3, 24, .inl (fun _ => 0)))]) (w1 := []) hP hD [0, 4] [1, 2, 3] rfl rfl (by decide) (by decide) hk1 hFc tz_P0 tz_D0
      generalize H1 = H at hP hS ⊢
      have hP : va_P (dC, dI) vwCl [(bk, .inr (0, [.ref rk0, .ref rk1, .ref rk2, .ref rk3, .ref eak, .int 0])), (rk3, .inr (6, [.int 4, .int 6, .ref cak3, .int 0])), (cak3, .inl (cck3, 24, .inl (fun _ => 0)))] H := hP
      have hD : va_D A [(bk, .inr (0, [.ref rk0, .ref rk1, .ref rk2, .ref rk3, .ref eak, .int 0])), (rk3, .inr (6, [.int 4, .int 6, .ref cak3, .int 0])), (cak3, .inl (cck3, 24, .inl (fun _ => 0)))] := hD
      obtain rfl : (-2) = r_34 := hw_35.symm
      exact W.iret (v := (-2)) hx hb hr (fun t ht hW => ⟨⟨(-2), (), rfl, (if_neg hc_3).symm, trivial⟩, hS.F ht⟩) hS.2.2 dX11_cause_48
    · exact absurd c_33 (by decide)
set_option maxRecDepth 20000 in
theorem ggX11_why_X11_within : GoodIn wsX11_why wsX11_within := goodIn_r _ [6] (by decide +kernel) (by decide +kernel)
set_option maxRecDepth 20000 in
theorem gX11_why_X11_within : GoodIn wsX11_why (va_wsS RX11 102 yX11_within wsX11_within) := goodIn_app (goodIn_of _ (by decide +kernel)) ggX11_why_X11_within
set_option maxRecDepth 20000 in
theorem ggX11_why_X6_size : GoodIn wsX11_why wsX6_size := goodIn_r _ [20, 21, 58, 59, 60, 61] (by decide +kernel) (by decide +kernel)
set_option maxRecDepth 20000 in
theorem gX11_why_X6_size : GoodIn wsX11_why (wsV RX11 89 RX6 yX6_size wsX6_size) := goodIn_app (goodIn_of _ (by decide +kernel)) ggX11_why_X6_size
set_option maxRecDepth 20000 in
theorem ggX11_why_X11_refuse : GoodIn wsX11_why wsX11_refuse := goodIn_r _ [10, 11, 12, 13, 5, 14, 15, 40, 41, 42, 43, 44, 45, 46, 47, 48, 49, 50, 51] (by decide +kernel) (by decide +kernel)
set_option maxRecDepth 20000 in
theorem gX11_why_X11_refuse : GoodIn wsX11_why (wsV RX11 106 RX11 yX11_refuse wsX11_refuse) := goodIn_app (goodIn_of _ (by decide +kernel)) ggX11_why_X11_refuse
theorem dX11_why_0 : decode cX11_why 0 = .ok (.iload_n 1, 1) := by decide +kernel
theorem dX11_why_1 : decode cX11_why 1 = .ok (.sipush (-198), 3) := by decide +kernel
theorem dX11_why_4 : decode cX11_why 4 = .ok (.sipush 198, 3) := by decide +kernel
theorem dX11_why_7 : decode cX11_why 7 = .ok (.invokestatic 102, 3) := by decide +kernel
theorem dX11_why_10 : decode cX11_why 10 = .ok (.ifCond .eq 12, 3) := by decide +kernel
theorem dX11_why_13 : decode cX11_why 13 = .ok (.iload_n 2, 1) := by decide +kernel
theorem dX11_why_14 : decode cX11_why 14 = .ok (.iconst 0, 1) := by decide +kernel
theorem dX11_why_15 : decode cX11_why 15 = .ok (.iconst 1, 1) := by decide +kernel
theorem dX11_why_16 : decode cX11_why 16 = .ok (.invokestatic 102, 3) := by decide +kernel
theorem dX11_why_19 : decode cX11_why 19 = .ok (.ifCond .ne 10, 3) := by decide +kernel
theorem dX11_why_29 : decode cX11_why 29 = .ok (.iconst 0, 1) := by decide +kernel
theorem dX11_why_30 : decode cX11_why 30 = .ok (.istore_n 3, 1) := by decide +kernel
theorem dX11_why_31 : decode cX11_why 31 = .ok (.iconst (-1), 1) := by decide +kernel
theorem dX11_why_32 : decode cX11_why 32 = .ok (.istore 4, 2) := by decide +kernel
theorem dX11_why_34 : decode cX11_why 34 = .ok (.iconst (-1), 1) := by decide +kernel
theorem dX11_why_35 : decode cX11_why 35 = .ok (.istore 5, 2) := by decide +kernel
theorem dX11_why_37 : decode cX11_why 37 = .ok (.iconst 0, 1) := by decide +kernel
theorem dX11_why_38 : decode cX11_why 38 = .ok (.istore 6, 2) := by decide +kernel
theorem dX11_why_40 : decode cX11_why 40 = .ok (.iload 6, 2) := by decide +kernel
theorem dX11_why_42 : decode cX11_why 42 = .ok (.aload_n 0, 1) := by decide +kernel
theorem dX11_why_43 : decode cX11_why 43 = .ok (.getfield 34, 3) := by decide +kernel
theorem dX11_why_46 : decode cX11_why 46 = .ok (.getfield 227, 3) := by decide +kernel
theorem dX11_why_49 : decode cX11_why 49 = .ok (.invokevirtual 89, 3) := by decide +kernel
theorem dX11_why_52 : decode cX11_why 52 = .ok (.if_icmp .ge 85, 3) := by decide +kernel
theorem dX11_why_137 : decode cX11_why 137 = .ok (.iload_n 2, 1) := by decide +kernel
theorem dX11_why_138 : decode cX11_why 138 = .ok (.ifCond .ne 7, 3) := by decide +kernel
theorem dX11_why_145 : decode cX11_why 145 = .ok (.iload 4, 2) := by decide +kernel
theorem dX11_why_147 : decode cX11_why 147 = .ok (.ireturn, 1) := by decide +kernel
theorem dX11_why_141 : decode cX11_why 141 = .ok (.iload_n 3, 1) := by decide +kernel
theorem dX11_why_142 : decode cX11_why 142 = .ok (.goto 5, 3) := by decide +kernel
theorem dX11_why_22 : decode cX11_why 22 = .ok (.aload_n 0, 1) := by decide +kernel
theorem dX11_why_23 : decode cX11_why 23 = .ok (.bipush (-2), 2) := by decide +kernel
theorem dX11_why_25 : decode cX11_why 25 = .ok (.invokevirtual 106, 3) := by decide +kernel
theorem dX11_why_28 : decode cX11_why 28 = .ok (.ireturn, 1) := by decide +kernel
set_option maxRecDepth 20000 in
theorem iw_k_x_why_X11 : ∀ w ∈ wsX110, w ∈ wsX11_why := by decide +kernel
set_option maxRecDepth 20000 in
theorem iw_k_x_why_X0 : ∀ w ∈ wsX00, w ∈ wsX11_why := by decide +kernel
set_option maxHeartbeats 4000000 in
set_option maxRecDepth 100000 in
theorem k_x_why (l : Launch) (dC : Nat → ClassId) (dI : Nat → Nat → Nat) (o : Nat) (aw : Nat) (bk : Nat) (ai : Nat) (ak : Nat) (sc : Nat) (rd : Nat) (fo : Nat) (tx : Nat) (ar : Nat) (atr : Nat) (ao : Nat) (rk0 : Nat) (rk1 : Nat) (rk2 : Nat) (rk3 : Nat) (eak : Nat) (cak3 : Nat) (cr : ClassId) (na : Int32) (nb : Int32) (sz : Nat) : Met l yX11_why wsX11_why ({ frames := 2, cells := 0, slots := 0, locals := 44 }) (va_Pc [.ref o, .int na, .int nb] (fun U => U.heap.size = sz ∧ va_P (dC, dI) vwCl [(o, .inr (11, [.ref aw, .ref bk, .ref ai, .ref ak, .ref sc, .ref rd, .ref fo, .ref tx, .int 0, .ref ar, .ref atr, .ref ao])), (bk, .inr (0, [.ref rk0, .ref rk1, .ref rk2, .ref rk3, .ref eak, .int 0])), (rk3, .inr (6, [.int 4, .int 6, .ref cak3, .int 0])), (ar, .inl (cr, 3, .inl (fun _ => 0)))] U.heap ∧ va_K (dC, dI) vwCl [(cr, .int)] U ∧ va_D (fun _ => True) [(o, .inr (11, [.ref aw, .ref bk, .ref ai, .ref ak, .ref sc, .ref rd, .ref fo, .ref tx, .int 0, .ref ar, .ref atr, .ref ao])), (bk, .inr (0, [.ref rk0, .ref rk1, .ref rk2, .ref rk3, .ref eak, .int 0])), (rk3, .inr (6, [.int 4, .int 6, .ref cak3, .int 0])), (ar, .inl (cr, 3, .inl (fun _ => 0)))])) (va_Qi (fun (r : Int32) (_ : Unit) => r = (if (-198) ≤ na ∧ na ≤ 198 then (if 0 ≤ nb ∧ nb ≤ 1 then (if nb = 0 then 0 else (-1)) else (-2)) else (-2))) (fun _ _ => True) (va_A [(o, .inr (11, [.ref aw, .ref bk, .ref ai, .ref ak, .ref sc, .ref rd, .ref fo, .ref tx, .int 0, .ref ar, .ref atr, .ref ao])), (bk, .inr (0, [.ref rk0, .ref rk1, .ref rk2, .ref rk3, .ref eak, .int 0])), (rk3, .inr (6, [.int 4, .int 6, .ref cak3, .int 0])), (ar, .inl (cr, 3, .inl (fun _ => 0)))] sz)) 0 0 (va_A [(o, .inr (11, [.ref aw, .ref bk, .ref ai, .ref ak, .ref sc, .ref rd, .ref fo, .ref tx, .int 0, .ref ar, .ref atr, .ref ao])), (bk, .inr (0, [.ref rk0, .ref rk1, .ref rk2, .ref rk3, .ref eak, .int 0])), (rk3, .inr (6, [.int 4, .int 6, .ref cak3, .int 0])), (ar, .inl (cr, 3, .inl (fun _ => 0)))] sz) := by
  refine Met.ofW (cc := cX11_why) (maxL := 8) (ret := (some .int)) (by decide) rfl ?_
  intro p e s m args below meth c s₁ B hml hv
  obtain ⟨rfl, hsz, hP, hK, hD0⟩ := hv
  have hx := B.exec
  have hb := B.bytes
  have hr := B.returns
  have hts := atoms_spec (ws := wsX11_why) B.pre
  have hown : s.vm.findClass RX11 = some m.cls := findClass_of_methodNamed B.named
  have hlocks := B.notSynchronized
  subst hsz
  have hD := hD0.self (sz := s.heap.size)
  generalize hAe : va_A [(o, .inr (11, [.ref aw, .ref bk, .ref ai, .ref ak, .ref sc, .ref rd, .ref fo, .ref tx, .int 0, .ref ar, .ref atr, .ref ao])), (bk, .inr (0, [.ref rk0, .ref rk1, .ref rk2, .ref rk3, .ref eak, .int 0])), (rk3, .inr (6, [.int 4, .int 6, .ref cak3, .int 0])), (ar, .inl (cr, 3, .inl (fun _ => 0)))] s.heap.size = A at hD ⊢
  have hA : ∀ q : Nat, s.heap.size ≤ q → A q := fun q h => by rw [← hAe]; exact Or.inr h
  have hS : va_S A s.heap s.heap [] := va_S.rf
  have hP : va_P (dC, dI) vwCl [(o, .inr (11, [.ref aw, .ref bk, .ref ai, .ref ak, .ref sc, .ref rd, .ref fo, .ref tx, .int 0, .ref ar, .ref atr, .ref ao])), (bk, .inr (0, [.ref rk0, .ref rk1, .ref rk2, .ref rk3, .ref eak, .int 0])), (rk3, .inr (6, [.int 4, .int 6, .ref cak3, .int 0])), (ar, .inl (cr, 3, .inl (fun _ => 0)))] s.heap := hP
  have hl := lv_entry ([.ref o, .int na, .int nb]) (n := 8) (Nat.le_of_ble_eq_true rfl)
  rw [lg_entry_eq]
  generalize (lg_sl ([.ref o, .int na, .int nb]) ++ List.replicate (8 - (lg_sl ([.ref o, .int na, .int nb])).length) Slot.unset).toArray = ls at hl ⊢
  have hl : lv_has ls 8 [(0, .ref o), (1, .int na), (2, .int nb)] := hl
  refine lv_iload_n hx hb dX11_why_0 rfl (lv_at hl 1 rfl) ?_
  refine lv_sipush (v := (-198)) hx hb dX11_why_1 (by decide) ?_
  refine lv_sipush (v := 198) hx hb dX11_why_4 (by decide) ?_
  refine vp_callSi (va_Run.run (va_runS (As := [.int na, .int (-198), .int 198]) (rest := []) ⟨hx, hb, hml, hown, hts⟩ (k_within l dC dI na (-198) 198) (va_cwS 3 hts gX11_why_X11_within rfl rfl rfl (by decide +kernel) ⟨Nat.le_of_ble_eq_true rfl, Nat.le_of_ble_eq_true rfl⟩) ⟨fun a U g mk q => ⟨q.1, trivial⟩, fun U hU hW => ⟨rfl, trivial⟩⟩ rfl rfl hl.1 rfl (lv_room (Nat.le_of_ble_eq_true rfl)) dX11_why_7 ⟨Nat.le_of_ble_eq_true rfl, Nat.le_of_ble_eq_true rfl⟩)) (fun r_1 hw_2 => ?_)
  by_cases hc_3 : (-198) ≤ na ∧ na ≤ 198
  · obtain rfl : 1 = r_1 := (hw_2.trans (if_pos hc_3)).symm
    refine lv_if_eq (tgt := 22) hx hb dX11_why_10 (by decide) (fun c_4 => ?_) (fun c_4 => ?_)
    · exact absurd c_4 (by decide)
    · refine lv_iload_n hx hb dX11_why_13 rfl (lv_at hl 2 rfl) ?_
      refine lv_iconst (v := 0) hx hb dX11_why_14 (by decide) ?_
      refine lv_iconst (v := 1) hx hb dX11_why_15 (by decide) ?_
      refine vp_callSi (va_Run.run (va_runS (As := [.int nb, .int 0, .int 1]) (rest := []) ⟨hx, hb, hml, hown, hts⟩ (k_within l dC dI nb 0 1) (va_cwS 3 hts gX11_why_X11_within rfl rfl rfl (by decide +kernel) ⟨Nat.le_of_ble_eq_true rfl, Nat.le_of_ble_eq_true rfl⟩) ⟨fun a U g mk q => ⟨q.1, trivial⟩, fun U hU hW => ⟨rfl, trivial⟩⟩ rfl rfl hl.1 rfl (lv_room (Nat.le_of_ble_eq_true rfl)) dX11_why_16 ⟨Nat.le_of_ble_eq_true rfl, Nat.le_of_ble_eq_true rfl⟩)) (fun r_5 hw_6 => ?_)
      by_cases hc_7 : 0 ≤ nb ∧ nb ≤ 1
      · obtain rfl : 1 = r_5 := (hw_6.trans (if_pos hc_7)).symm
        refine lv_if_ne (tgt := 29) hx hb dX11_why_19 (by decide) (fun c_8 => ?_) (fun c_8 => ?_)
        · refine lv_iconst (v := 0) hx hb dX11_why_29 (by decide) ?_
          refine lv_istore_n (lv' := [(3, .int 0), (0, .ref o), (1, .int na), (2, .int nb)]) hx hb dX11_why_30 rfl hl (by decide) rfl (fun ls hl => ?_)
          refine lv_iconst (v := (-1)) hx hb dX11_why_31 (by decide) ?_
          refine lv_istore (lv' := [(4, .int (-1)), (3, .int 0), (0, .ref o), (1, .int na), (2, .int nb)]) hx hb dX11_why_32 hl (by decide) rfl (fun ls hl => ?_)
          refine lv_iconst (v := (-1)) hx hb dX11_why_34 (by decide) ?_
          refine lv_istore (lv' := [(5, .int (-1)), (4, .int (-1)), (3, .int 0), (0, .ref o), (1, .int na), (2, .int nb)]) hx hb dX11_why_35 hl (by decide) rfl (fun ls hl => ?_)
          refine lv_iconst (v := 0) hx hb dX11_why_37 (by decide) ?_
          refine lv_istore (lv' := [(6, .int 0), (5, .int (-1)), (4, .int (-1)), (3, .int 0), (0, .ref o), (1, .int na), (2, .int nb)]) hx hb dX11_why_38 hl (by decide) rfl (fun ls hl => ?_)
          refine lv_iload hx hb dX11_why_40 (lv_at hl 0 rfl) ?_
          refine lv_aload_n hx hb dX11_why_42 rfl (lv_at hl 4 rfl) ?_
          refine va_get (D := (dC, dI)) (ci := 11) (v := .ref bk) (C := RX11) (T := TX11) (N := 12) hx hb hts iw_k_x_why_X11 hown hK hP 0 rfl rfl 1 (by decide) (hts (.fieldLink RX11 34 "ThriceCounted" "bank" "LThriceCounted$Bank;") (by decide +kernel)) (fun _ h9 => h9) rfl dX11_why_43 ?_
          refine va_get (D := (dC, dI)) (ci := 0) (v := .ref rk3) (C := RX0) (T := TX0) (N := 6) hx hb hts iw_k_x_why_X0 hown hK hP 1 rfl rfl 3 (by decide) (hts (.fieldLink RX11 227 "ThriceCounted$Bank" "causes" "LThriceCounted$Rows;") (by decide +kernel)) (fun _ h9 => h9) rfl dX11_why_46 ?_
          have hPc_9 := hP.sub (ws' := [(rk3, .inr (6, [.int 4, .int 6, .ref cak3, .int 0]))]) [2] rfl
          have hKc_10 := hK.sub (tys' := []) [] rfl
          refine vp_callSi (va_Run.run (va_runV (As := []) (rest := [.int 0]) ⟨hx, hb, hml, hown, hts⟩ (k_size l dC dI rk3 (.int 4) (.int 6) (.ref cak3) 0) (cwV 0 hts gX11_why_X6_size rfl rfl rfl (by decide +kernel) ⟨Nat.le_of_ble_eq_true rfl, Nat.le_of_ble_eq_true rfl⟩) ⟨fun a U g mk q => by obtain ⟨q0, qP, qK⟩ := q; exact ⟨q0, qP, va_K.moved (u := U) (U := U.calling g mk a) (Vm.Alike.refl U.vm) qK⟩, va_recv hK hP (ci := 6) (q0 := 2) rfl rfl, fun U hU hW => ⟨rfl, by rw [hU]; exact hPc_9, va_K.moved hW.alike hKc_10⟩⟩ rfl rfl hl.1 rfl (lv_room (Nat.le_of_ble_eq_true rfl)) dX11_why_49 ⟨Nat.le_of_ble_eq_true rfl, Nat.le_of_ble_eq_true rfl⟩)) (fun r_11 hw_12 => ?_)
          obtain rfl : 0 = r_11 := hw_12.symm
          refine lv_icmp_ge (tgt := 137) hx hb dX11_why_52 (by decide) (fun c_13 => ?_) (fun c_13 => ?_)
          · refine lv_iload_n hx hb dX11_why_137 rfl (lv_at hl 6 rfl) ?_
            refine lv_if_ne (tgt := 145) hx hb dX11_why_138 (by decide) (fun c_14 => ?_) (fun c_14 => ?_)
            · refine lv_iload hx hb dX11_why_145 (lv_at hl 2 rfl) ?_
              exact W.iret (v := (-1)) hx hb hr (fun t ht hW => ⟨⟨(-1), (), rfl, ((if_pos hc_3).trans ((if_pos hc_7).trans (if_neg c_14))).symm, trivial⟩, hS.F ht⟩) hS.2.2 dX11_why_147
            · refine lv_iload_n hx hb dX11_why_141 rfl (lv_at hl 3 rfl) ?_
              refine lv_goto (tgt := 147) hx hb dX11_why_142 (by decide) ?_
              exact W.iret (v := 0) hx hb hr (fun t ht hW => ⟨⟨0, (), rfl, ((if_pos hc_3).trans ((if_pos hc_7).trans (if_pos c_14))).symm, trivial⟩, hS.F ht⟩) hS.2.2 dX11_why_147
          · exact absurd c_13 (by decide)
        · exact absurd c_8 (by decide)
      · obtain rfl : 0 = r_5 := (hw_6.trans (if_neg hc_7)).symm
        refine lv_if_ne (tgt := 29) hx hb dX11_why_19 (by decide) (fun c_15 => ?_) (fun c_15 => ?_)
        · exact absurd c_15 (by decide)
        · refine lv_aload_n hx hb dX11_why_22 rfl (lv_at hl 0 rfl) ?_
          refine lv_bipush (v := (-2)) hx hb dX11_why_23 (by decide) ?_
          have hPc := hP.sub (ws' := [(o, .inr (11, [.ref aw, .ref bk, .ref ai, .ref ak, .ref sc, .ref rd, .ref fo, .ref tx, .int 0, .ref ar, .ref atr, .ref ao])), (ar, .inl (cr, 3, .inl (fun _ => 0)))]) [0, 3] rfl
          have hDc := hD.sub (ws' := [(o, .inr (11, [.ref aw, .ref bk, .ref ai, .ref ak, .ref sc, .ref rd, .ref fo, .ref tx, .int 0, .ref ar, .ref atr, .ref ao])), (ar, .inl (cr, 3, .inl (fun _ => 0)))]) [0, 3] (by decide) rfl
          have hKc := hK.sub (tys' := [(cr, .int)]) [0] rfl
          have hFc := va_free (wc := [(o, .inr (11, [.ref aw, .ref bk, .ref ai, .ref ak, .ref sc, .ref rd, .ref fo, .ref tx, .int 0, .ref ar, .ref atr, .ref ao])), (ar, .inl (cr, 3, .inl (fun _ => 0)))]) hD hS hA [0, 3] rfl
          refine va_calli (va_runV (As := [.int (-2)]) (rest := []) ⟨hx, hb, hml, hown, hts⟩ (k_refuse l dC dI o (.ref aw) (.ref bk) (.ref ai) (.ref ak) (.ref sc) (.ref rd) (.ref fo) (.ref tx) (.int 0) ar (.ref atr) (.ref ao) cr (fun _ => 0) (-2) s.heap.size) (cwV 1 hts gX11_why_X11_refuse rfl rfl rfl (by decide +kernel) ⟨Nat.le_of_ble_eq_true rfl, Nat.le_of_ble_eq_true rfl⟩) ⟨fun a U g mk q => by obtain ⟨q0, q1, qP, qK, qD⟩ := q; exact ⟨q0, q1, qP, va_K.moved (u := U) (U := U.calling g mk a) (Vm.Alike.refl U.vm) qK, qD⟩, va_recv hK hP (ci := 11) (q0 := 0) rfl rfl, fun U hU hW => ⟨rfl, by rw [hU], by rw [hU]; exact hPc, va_K.moved hW.alike hKc, hDc.weaken (fun _ _ _ _ => trivial)⟩⟩ rfl rfl hl.1 rfl (lv_room (Nat.le_of_ble_eq_true rfl)) dX11_why_25 ⟨Nat.le_of_ble_eq_true rfl, Nat.le_of_ble_eq_true rfl⟩) hS (fun q _ h => hFc q h) hFc (fun r_16 u_ t H1 locs ht hvm hw_17 hB hz1 hk1 hS => ?_)
          obtain ⟨hP, hD⟩ := va_join (wr := [(bk, .inr (0, [.ref rk0, .ref rk1, .ref rk2, .ref rk3, .ref eak, .int 0])), (rk3, .inr (6, [.int 4, .int 6, .ref cak3, .int 0]))]) (w1 := []) hP hD [0, 3] [1, 2] rfl rfl (by decide) (by decide) hk1 hFc tz_P0 tz_D0
          generalize H1 = H at hP hS ⊢
          have hP : va_P (dC, dI) vwCl [(bk, .inr (0, [.ref rk0, .ref rk1, .ref rk2, .ref rk3, .ref eak, .int 0])), (rk3, .inr (6, [.int 4, .int 6, .ref cak3, .int 0]))] H := hP
          have hD : va_D A [(bk, .inr (0, [.ref rk0, .ref rk1, .ref rk2, .ref rk3, .ref eak, .int 0])), (rk3, .inr (6, [.int 4, .int 6, .ref cak3, .int 0]))] := hD
          obtain rfl : (-2) = r_16 := hw_17.symm
          exact W.iret (v := (-2)) hx hb hr (fun t ht hW => ⟨⟨(-2), (), rfl, ((if_pos hc_3).trans (if_neg hc_7)).symm, trivial⟩, hS.F ht⟩) hS.2.2 dX11_why_28
  · obtain rfl : 0 = r_1 := (hw_2.trans (if_neg hc_3)).symm
    refine lv_if_eq (tgt := 22) hx hb dX11_why_10 (by decide) (fun c_18 => ?_) (fun c_18 => ?_)
    · refine lv_aload_n hx hb dX11_why_22 rfl (lv_at hl 0 rfl) ?_
      refine lv_bipush (v := (-2)) hx hb dX11_why_23 (by decide) ?_
      have hPc := hP.sub (ws' := [(o, .inr (11, [.ref aw, .ref bk, .ref ai, .ref ak, .ref sc, .ref rd, .ref fo, .ref tx, .int 0, .ref ar, .ref atr, .ref ao])), (ar, .inl (cr, 3, .inl (fun _ => 0)))]) [0, 3] rfl
      have hDc := hD.sub (ws' := [(o, .inr (11, [.ref aw, .ref bk, .ref ai, .ref ak, .ref sc, .ref rd, .ref fo, .ref tx, .int 0, .ref ar, .ref atr, .ref ao])), (ar, .inl (cr, 3, .inl (fun _ => 0)))]) [0, 3] (by decide) rfl
      have hKc := hK.sub (tys' := [(cr, .int)]) [0] rfl
      have hFc := va_free (wc := [(o, .inr (11, [.ref aw, .ref bk, .ref ai, .ref ak, .ref sc, .ref rd, .ref fo, .ref tx, .int 0, .ref ar, .ref atr, .ref ao])), (ar, .inl (cr, 3, .inl (fun _ => 0)))]) hD hS hA [0, 3] rfl
      refine va_calli (va_runV (As := [.int (-2)]) (rest := []) ⟨hx, hb, hml, hown, hts⟩ (k_refuse l dC dI o (.ref aw) (.ref bk) (.ref ai) (.ref ak) (.ref sc) (.ref rd) (.ref fo) (.ref tx) (.int 0) ar (.ref atr) (.ref ao) cr (fun _ => 0) (-2) s.heap.size) (cwV 1 hts gX11_why_X11_refuse rfl rfl rfl (by decide +kernel) ⟨Nat.le_of_ble_eq_true rfl, Nat.le_of_ble_eq_true rfl⟩) ⟨fun a U g mk q => by obtain ⟨q0, q1, qP, qK, qD⟩ := q; exact ⟨q0, q1, qP, va_K.moved (u := U) (U := U.calling g mk a) (Vm.Alike.refl U.vm) qK, qD⟩, va_recv hK hP (ci := 11) (q0 := 0) rfl rfl, fun U hU hW => ⟨rfl, by rw [hU], by rw [hU]; exact hPc, va_K.moved hW.alike hKc, hDc.weaken (fun _ _ _ _ => trivial)⟩⟩ rfl rfl hl.1 rfl (lv_room (Nat.le_of_ble_eq_true rfl)) dX11_why_25 ⟨Nat.le_of_ble_eq_true rfl, Nat.le_of_ble_eq_true rfl⟩) hS (fun q _ h => hFc q h) hFc (fun r_19 u_ t H1 locs ht hvm hw_20 hB hz1 hk1 hS => ?_)
      obtain ⟨hP, hD⟩ := va_join (wr := [(bk, .inr (0, [.ref rk0, .ref rk1, .ref rk2, .ref rk3, .ref eak, .int 0])), (rk3, .inr (6, [.int 4, .int 6, .ref cak3, .int 0]))]) (w1 := []) hP hD [0, 3] [1, 2] rfl rfl (by decide) (by decide) hk1 hFc tz_P0 tz_D0
      generalize H1 = H at hP hS ⊢
      have hP : va_P (dC, dI) vwCl [(bk, .inr (0, [.ref rk0, .ref rk1, .ref rk2, .ref rk3, .ref eak, .int 0])), (rk3, .inr (6, [.int 4, .int 6, .ref cak3, .int 0]))] H := hP
      have hD : va_D A [(bk, .inr (0, [.ref rk0, .ref rk1, .ref rk2, .ref rk3, .ref eak, .int 0])), (rk3, .inr (6, [.int 4, .int 6, .ref cak3, .int 0]))] := hD
      obtain rfl : (-2) = r_19 := hw_20.symm
      exact W.iret (v := (-2)) hx hb hr (fun t ht hW => ⟨⟨(-2), (), rfl, (if_neg hc_3).symm, trivial⟩, hS.F ht⟩) hS.2.2 dX11_why_28
    · exact absurd c_18 (by decide)
set_option maxRecDepth 20000 in
theorem ggX11_look_X11_within : GoodIn wsX11_look wsX11_within := goodIn_r _ [5] (by decide +kernel) (by decide +kernel)
set_option maxRecDepth 20000 in
theorem gX11_look_X11_within : GoodIn wsX11_look (va_wsS RX11 102 yX11_within wsX11_within) := goodIn_app (goodIn_of _ (by decide +kernel)) ggX11_look_X11_within
set_option maxRecDepth 20000 in
theorem ggX11_look_X11_listCauses : GoodIn wsX11_look wsX11_listCauses := goodIn_r _ [14, 15, 16, 1, 17, 18, 19, 20, 21, 22, 23, 24, 25, 26, 27, 28, 29, 30, 31, 32, 61, 62, 63, 64, 65, 66, 67, 68, 69, 70, 71, 72, 73, 74, 75, 76, 77, 78, 79, 80, 81, 82] (by decide +kernel) (by decide +kernel)
set_option maxRecDepth 20000 in
theorem gX11_look_X11_listCauses : GoodIn wsX11_look (wsV RX11 240 RX11 yX11_listCauses wsX11_listCauses) := goodIn_app (goodIn_of _ (by decide +kernel)) ggX11_look_X11_listCauses
set_option maxRecDepth 20000 in
theorem ggX11_look_X11_refuseAs : GoodIn wsX11_look wsX11_refuseAs := goodIn_r _ [9, 10, 61, 62, 63, 64, 65, 66, 67, 68, 69, 70, 71, 72] (by decide +kernel) (by decide +kernel)
set_option maxRecDepth 20000 in
theorem gX11_look_X11_refuseAs : GoodIn wsX11_look (wsV RX11 172 RX11 yX11_refuseAs wsX11_refuseAs) := goodIn_app (goodIn_of _ (by decide +kernel)) ggX11_look_X11_refuseAs
theorem dX11_look_0 : decode cX11_look 0 = .ok (.iload_n 1, 1) := by decide +kernel
theorem dX11_look_1 : decode cX11_look 1 = .ok (.sipush (-198), 3) := by decide +kernel
theorem dX11_look_4 : decode cX11_look 4 = .ok (.sipush 198, 3) := by decide +kernel
theorem dX11_look_7 : decode cX11_look 7 = .ok (.invokestatic 102, 3) := by decide +kernel
theorem dX11_look_10 : decode cX11_look 10 = .ok (.ifCond .eq 7, 3) := by decide +kernel
theorem dX11_look_13 : decode cX11_look 13 = .ok (.iload_n 2, 1) := by decide +kernel
theorem dX11_look_14 : decode cX11_look 14 = .ok (.ifCond .ge 12, 3) := by decide +kernel
theorem dX11_look_26 : decode cX11_look 26 = .ok (.aload_n 0, 1) := by decide +kernel
theorem dX11_look_27 : decode cX11_look 27 = .ok (.iload_n 1, 1) := by decide +kernel
theorem dX11_look_28 : decode cX11_look 28 = .ok (.invokevirtual 240, 3) := by decide +kernel
theorem dX11_look_31 : decode cX11_look 31 = .ok (.istore_n 3, 1) := by decide +kernel
theorem dX11_look_32 : decode cX11_look 32 = .ok (.iload_n 2, 1) := by decide +kernel
theorem dX11_look_33 : decode cX11_look 33 = .ok (.iload_n 3, 1) := by decide +kernel
theorem dX11_look_34 : decode cX11_look 34 = .ok (.if_icmp .ge 12, 3) := by decide +kernel
theorem dX11_look_46 : decode cX11_look 46 = .ok (.bipush (-5), 2) := by decide +kernel
theorem dX11_look_48 : decode cX11_look 48 = .ok (.ireturn, 1) := by decide +kernel
theorem dX11_look_17 : decode cX11_look 17 = .ok (.aload_n 0, 1) := by decide +kernel
theorem dX11_look_18 : decode cX11_look 18 = .ok (.bipush (-2), 2) := by decide +kernel
theorem dX11_look_20 : decode cX11_look 20 = .ok (.bipush (-10), 2) := by decide +kernel
theorem dX11_look_22 : decode cX11_look 22 = .ok (.invokevirtual 172, 3) := by decide +kernel
theorem dX11_look_25 : decode cX11_look 25 = .ok (.ireturn, 1) := by decide +kernel
set_option maxHeartbeats 4000000 in
set_option maxRecDepth 100000 in
theorem k_x_look (l : Launch) (dC : Nat → ClassId) (dI : Nat → Nat → Nat) (o : Nat) (aw : Nat) (bk : Nat) (ai : Nat) (ak : Nat) (sc : Nat) (rd : Nat) (fo : Nat) (tx : Nat) (ar : Nat) (atr : Nat) (ao : Nat) (rk0 : Nat) (rk1 : Nat) (rk2 : Nat) (rk3 : Nat) (eak : Nat) (cak3 : Nat) (cr : ClassId) (na : Int32) (nb : Int32) (sz : Nat) : Met l yX11_look wsX11_look ({ frames := 2, cells := 0, slots := 0, locals := 43 }) (va_Pc [.ref o, .int na, .int nb] (fun U => U.heap.size = sz ∧ va_P (dC, dI) vwCl [(o, .inr (11, [.ref aw, .ref bk, .ref ai, .ref ak, .ref sc, .ref rd, .ref fo, .ref tx, .int 0, .ref ar, .ref atr, .ref ao])), (bk, .inr (0, [.ref rk0, .ref rk1, .ref rk2, .ref rk3, .ref eak, .int 0])), (rk3, .inr (6, [.int 4, .int 6, .ref cak3, .int 0])), (ar, .inl (cr, 3, .inl (fun _ => 0)))] U.heap ∧ va_K (dC, dI) vwCl [(cr, .int)] U ∧ va_D (fun _ => True) [(o, .inr (11, [.ref aw, .ref bk, .ref ai, .ref ak, .ref sc, .ref rd, .ref fo, .ref tx, .int 0, .ref ar, .ref atr, .ref ao])), (bk, .inr (0, [.ref rk0, .ref rk1, .ref rk2, .ref rk3, .ref eak, .int 0])), (rk3, .inr (6, [.int 4, .int 6, .ref cak3, .int 0])), (ar, .inl (cr, 3, .inl (fun _ => 0)))])) (va_Qi (fun (r : Int32) (_ : Unit) => r = (if (-198) ≤ na ∧ na ≤ 198 then (if 0 ≤ nb then (-5) else (-10)) else (-10))) (fun _ _ => True) (va_A [(o, .inr (11, [.ref aw, .ref bk, .ref ai, .ref ak, .ref sc, .ref rd, .ref fo, .ref tx, .int 0, .ref ar, .ref atr, .ref ao])), (bk, .inr (0, [.ref rk0, .ref rk1, .ref rk2, .ref rk3, .ref eak, .int 0])), (rk3, .inr (6, [.int 4, .int 6, .ref cak3, .int 0])), (ar, .inl (cr, 3, .inl (fun _ => 0)))] sz)) 0 0 (va_A [(o, .inr (11, [.ref aw, .ref bk, .ref ai, .ref ak, .ref sc, .ref rd, .ref fo, .ref tx, .int 0, .ref ar, .ref atr, .ref ao])), (bk, .inr (0, [.ref rk0, .ref rk1, .ref rk2, .ref rk3, .ref eak, .int 0])), (rk3, .inr (6, [.int 4, .int 6, .ref cak3, .int 0])), (ar, .inl (cr, 3, .inl (fun _ => 0)))] sz) := by
  refine Met.ofW (cc := cX11_look) (maxL := 4) (ret := (some .int)) (by decide) rfl ?_
  intro p e s m args below meth c s₁ B hml hv
  obtain ⟨rfl, hsz, hP, hK, hD0⟩ := hv
  have hx := B.exec
  have hb := B.bytes
  have hr := B.returns
  have hts := atoms_spec (ws := wsX11_look) B.pre
  have hown : s.vm.findClass RX11 = some m.cls := findClass_of_methodNamed B.named
  have hlocks := B.notSynchronized
  subst hsz
  have hD := hD0.self (sz := s.heap.size)
  generalize hAe : va_A [(o, .inr (11, [.ref aw, .ref bk, .ref ai, .ref ak, .ref sc, .ref rd, .ref fo, .ref tx, .int 0, .ref ar, .ref atr, .ref ao])), (bk, .inr (0, [.ref rk0, .ref rk1, .ref rk2, .ref rk3, .ref eak, .int 0])), (rk3, .inr (6, [.int 4, .int 6, .ref cak3, .int 0])), (ar, .inl (cr, 3, .inl (fun _ => 0)))] s.heap.size = A at hD ⊢
  have hA : ∀ q : Nat, s.heap.size ≤ q → A q := fun q h => by rw [← hAe]; exact Or.inr h
  have hS : va_S A s.heap s.heap [] := va_S.rf
  have hP : va_P (dC, dI) vwCl [(o, .inr (11, [.ref aw, .ref bk, .ref ai, .ref ak, .ref sc, .ref rd, .ref fo, .ref tx, .int 0, .ref ar, .ref atr, .ref ao])), (bk, .inr (0, [.ref rk0, .ref rk1, .ref rk2, .ref rk3, .ref eak, .int 0])), (rk3, .inr (6, [.int 4, .int 6, .ref cak3, .int 0])), (ar, .inl (cr, 3, .inl (fun _ => 0)))] s.heap := hP
  have hl := lv_entry ([.ref o, .int na, .int nb]) (n := 4) (Nat.le_of_ble_eq_true rfl)
  rw [lg_entry_eq]
  generalize (lg_sl ([.ref o, .int na, .int nb]) ++ List.replicate (4 - (lg_sl ([.ref o, .int na, .int nb])).length) Slot.unset).toArray = ls at hl ⊢
  have hl : lv_has ls 4 [(0, .ref o), (1, .int na), (2, .int nb)] := hl
  refine lv_iload_n hx hb dX11_look_0 rfl (lv_at hl 1 rfl) ?_
  refine lv_sipush (v := (-198)) hx hb dX11_look_1 (by decide) ?_
  refine lv_sipush (v := 198) hx hb dX11_look_4 (by decide) ?_
  refine vp_callSi (va_Run.run (va_runS (As := [.int na, .int (-198), .int 198]) (rest := []) ⟨hx, hb, hml, hown, hts⟩ (k_within l dC dI na (-198) 198) (va_cwS 3 hts gX11_look_X11_within rfl rfl rfl (by decide +kernel) ⟨Nat.le_of_ble_eq_true rfl, Nat.le_of_ble_eq_true rfl⟩) ⟨fun a U g mk q => ⟨q.1, trivial⟩, fun U hU hW => ⟨rfl, trivial⟩⟩ rfl rfl hl.1 rfl (lv_room (Nat.le_of_ble_eq_true rfl)) dX11_look_7 ⟨Nat.le_of_ble_eq_true rfl, Nat.le_of_ble_eq_true rfl⟩)) (fun r_1 hw_2 => ?_)
  by_cases hc_3 : (-198) ≤ na ∧ na ≤ 198
  · obtain rfl : 1 = r_1 := (hw_2.trans (if_pos hc_3)).symm
    refine lv_if_eq (tgt := 17) hx hb dX11_look_10 (by decide) (fun c_4 => ?_) (fun c_4 => ?_)
    · exact absurd c_4 (by decide)
    · refine lv_iload_n hx hb dX11_look_13 rfl (lv_at hl 2 rfl) ?_
      refine lv_if_ge (tgt := 26) hx hb dX11_look_14 (by decide) (fun c_5 => ?_) (fun c_5 => ?_)
      · refine lv_aload_n hx hb dX11_look_26 rfl (lv_at hl 0 rfl) ?_
        refine lv_iload_n hx hb dX11_look_27 rfl (lv_at hl 1 rfl) ?_
        have hPc_6 := hP.sub (ws' := [(o, .inr (11, [.ref aw, .ref bk, .ref ai, .ref ak, .ref sc, .ref rd, .ref fo, .ref tx, .int 0, .ref ar, .ref atr, .ref ao])), (bk, .inr (0, [.ref rk0, .ref rk1, .ref rk2, .ref rk3, .ref eak, .int 0])), (rk3, .inr (6, [.int 4, .int 6, .ref cak3, .int 0]))]) [0, 1, 2] rfl
        have hKc_7 := hK.sub (tys' := []) [] rfl
        refine vp_callSi (va_Run.run (va_runV (As := [.int na]) (rest := []) ⟨hx, hb, hml, hown, hts⟩ (k_listCauses l dC dI o aw bk ai ak sc rd fo tx ar atr ao rk0 rk1 rk2 rk3 eak cak3 na) (cwV 1 hts gX11_look_X11_listCauses rfl rfl rfl (by decide +kernel) ⟨Nat.le_of_ble_eq_true rfl, Nat.le_of_ble_eq_true rfl⟩) ⟨fun a U g mk q => by obtain ⟨q0, qP, qK⟩ := q; exact ⟨q0, qP, va_K.moved (u := U) (U := U.calling g mk a) (Vm.Alike.refl U.vm) qK⟩, va_recv hK hP (ci := 11) (q0 := 0) rfl rfl, fun U hU hW => ⟨rfl, by rw [hU]; exact hPc_6, va_K.moved hW.alike hKc_7⟩⟩ rfl rfl hl.1 rfl (lv_room (Nat.le_of_ble_eq_true rfl)) dX11_look_28 ⟨Nat.le_of_ble_eq_true rfl, Nat.le_of_ble_eq_true rfl⟩)) (fun r_8 hw_9 => ?_)
        obtain rfl : 0 = r_8 := hw_9.symm
        refine lv_istore_n (lv' := [(3, .int 0), (0, .ref o), (1, .int na), (2, .int nb)]) hx hb dX11_look_31 rfl hl (by decide) rfl (fun ls hl => ?_)
        refine lv_iload_n hx hb dX11_look_32 rfl (lv_at hl 3 rfl) ?_
        refine lv_iload_n hx hb dX11_look_33 rfl (lv_at hl 0 rfl) ?_
        refine lv_icmp_ge (tgt := 46) hx hb dX11_look_34 (by decide) (fun c_10 => ?_) (fun c_10 => ?_)
        · refine lv_bipush (v := (-5)) hx hb dX11_look_46 (by decide) ?_
          exact W.iret (v := (-5)) hx hb hr (fun t ht hW => ⟨⟨(-5), (), rfl, ((if_pos hc_3).trans (if_pos c_5)).symm, trivial⟩, hS.F ht⟩) hS.2.2 dX11_look_48
        · exact absurd c_5 c_10
      · refine lv_aload_n hx hb dX11_look_17 rfl (lv_at hl 0 rfl) ?_
        refine lv_bipush (v := (-2)) hx hb dX11_look_18 (by decide) ?_
        refine lv_bipush (v := (-10)) hx hb dX11_look_20 (by decide) ?_
        have hPc := hP.sub (ws' := [(o, .inr (11, [.ref aw, .ref bk, .ref ai, .ref ak, .ref sc, .ref rd, .ref fo, .ref tx, .int 0, .ref ar, .ref atr, .ref ao])), (ar, .inl (cr, 3, .inl (fun _ => 0)))]) [0, 3] rfl
        have hDc := hD.sub (ws' := [(o, .inr (11, [.ref aw, .ref bk, .ref ai, .ref ak, .ref sc, .ref rd, .ref fo, .ref tx, .int 0, .ref ar, .ref atr, .ref ao])), (ar, .inl (cr, 3, .inl (fun _ => 0)))]) [0, 3] (by decide) rfl
        have hKc := hK.sub (tys' := [(cr, .int)]) [0] rfl
        have hFc := va_free (wc := [(o, .inr (11, [.ref aw, .ref bk, .ref ai, .ref ak, .ref sc, .ref rd, .ref fo, .ref tx, .int 0, .ref ar, .ref atr, .ref ao])), (ar, .inl (cr, 3, .inl (fun _ => 0)))]) hD hS hA [0, 3] rfl
        refine va_calli (va_runV (As := [.int (-2), .int (-10)]) (rest := []) ⟨hx, hb, hml, hown, hts⟩ (k_refuseAs l dC dI o (.ref aw) (.ref bk) (.ref ai) (.ref ak) (.ref sc) (.ref rd) (.ref fo) (.ref tx) (.int 0) ar (.ref atr) (.ref ao) cr (fun _ => 0) (-2) (-10) s.heap.size) (cwV 2 hts gX11_look_X11_refuseAs rfl rfl rfl (by decide +kernel) ⟨Nat.le_of_ble_eq_true rfl, Nat.le_of_ble_eq_true rfl⟩) ⟨fun a U g mk q => by obtain ⟨q0, q1, qP, qK, qD⟩ := q; exact ⟨q0, q1, qP, va_K.moved (u := U) (U := U.calling g mk a) (Vm.Alike.refl U.vm) qK, qD⟩, va_recv hK hP (ci := 11) (q0 := 0) rfl rfl, fun U hU hW => ⟨rfl, by rw [hU], by rw [hU]; exact hPc, va_K.moved hW.alike hKc, hDc.weaken (fun _ _ _ _ => trivial)⟩⟩ rfl rfl hl.1 rfl (lv_room (Nat.le_of_ble_eq_true rfl)) dX11_look_22 ⟨Nat.le_of_ble_eq_true rfl, Nat.le_of_ble_eq_true rfl⟩) hS (fun q _ h => hFc q h) hFc (fun r_11 u_ t H1 locs ht hvm hw_12 hB hz1 hk1 hS => ?_)
        obtain ⟨hP, hD⟩ := va_join (wr := [(bk, .inr (0, [.ref rk0, .ref rk1, .ref rk2, .ref rk3, .ref eak, .int 0])), (rk3, .inr (6, [.int 4, .int 6, .ref cak3, .int 0]))]) (w1 := []) hP hD [0, 3] [1, 2] rfl rfl (by decide) (by decide) hk1 hFc tz_P0 tz_D0
        generalize H1 = H at hP hS ⊢
        have hP : va_P (dC, dI) vwCl [(bk, .inr (0, [.ref rk0, .ref rk1, .ref rk2, .ref rk3, .ref eak, .int 0])), (rk3, .inr (6, [.int 4, .int 6, .ref cak3, .int 0]))] H := hP
        have hD : va_D A [(bk, .inr (0, [.ref rk0, .ref rk1, .ref rk2, .ref rk3, .ref eak, .int 0])), (rk3, .inr (6, [.int 4, .int 6, .ref cak3, .int 0]))] := hD
        obtain rfl : (-10) = r_11 := hw_12.symm
        exact W.iret (v := (-10)) hx hb hr (fun t ht hW => ⟨⟨(-10), (), rfl, ((if_pos hc_3).trans (if_neg c_5)).symm, trivial⟩, hS.F ht⟩) hS.2.2 dX11_look_25
  · obtain rfl : 0 = r_1 := (hw_2.trans (if_neg hc_3)).symm
    refine lv_if_eq (tgt := 17) hx hb dX11_look_10 (by decide) (fun c_13 => ?_) (fun c_13 => ?_)
    · refine lv_aload_n hx hb dX11_look_17 rfl (lv_at hl 0 rfl) ?_
      refine lv_bipush (v := (-2)) hx hb dX11_look_18 (by decide) ?_
      refine lv_bipush (v := (-10)) hx hb dX11_look_20 (by decide) ?_
      have hPc := hP.sub (ws' := [(o, .inr (11, [.ref aw, .ref bk, .ref ai, .ref ak, .ref sc, .ref rd, .ref fo, .ref tx, .int 0, .ref ar, .ref atr, .ref ao])), (ar, .inl (cr, 3, .inl (fun _ => 0)))]) [0, 3] rfl
      have hDc := hD.sub (ws' := [(o, .inr (11, [.ref aw, .ref bk, .ref ai, .ref ak, .ref sc, .ref rd, .ref fo, .ref tx, .int 0, .ref ar, .ref atr, .ref ao])), (ar, .inl (cr, 3, .inl (fun _ => 0)))]) [0, 3] (by decide) rfl
      have hKc := hK.sub (tys' := [(cr, .int)]) [0] rfl
      have hFc := va_free (wc := [(o, .inr (11, [.ref aw, .ref bk, .ref ai, .ref ak, .ref sc, .ref rd, .ref fo, .ref tx, .int 0, .ref ar, .ref atr, .ref ao])), (ar, .inl (cr, 3, .inl (fun _ => 0)))]) hD hS hA [0, 3] rfl
      refine va_calli (va_runV (As := [.int (-2), .int (-10)]) (rest := []) ⟨hx, hb, hml, hown, hts⟩ (k_refuseAs l dC dI o (.ref aw) (.ref bk) (.ref ai) (.ref ak) (.ref sc) (.ref rd) (.ref fo) (.ref tx) (.int 0) ar (.ref atr) (.ref ao) cr (fun _ => 0) (-2) (-10) s.heap.size) (cwV 2 hts gX11_look_X11_refuseAs rfl rfl rfl (by decide +kernel) ⟨Nat.le_of_ble_eq_true rfl, Nat.le_of_ble_eq_true rfl⟩) ⟨fun a U g mk q => by obtain ⟨q0, q1, qP, qK, qD⟩ := q; exact ⟨q0, q1, qP, va_K.moved (u := U) (U := U.calling g mk a) (Vm.Alike.refl U.vm) qK, qD⟩, va_recv hK hP (ci := 11) (q0 := 0) rfl rfl, fun U hU hW => ⟨rfl, by rw [hU], by rw [hU]; exact hPc, va_K.moved hW.alike hKc, hDc.weaken (fun _ _ _ _ => trivial)⟩⟩ rfl rfl hl.1 rfl (lv_room (Nat.le_of_ble_eq_true rfl)) dX11_look_22 ⟨Nat.le_of_ble_eq_true rfl, Nat.le_of_ble_eq_true rfl⟩) hS (fun q _ h => hFc q h) hFc (fun r_14 u_ t H1 locs ht hvm hw_15 hB hz1 hk1 hS => ?_)
      obtain ⟨hP, hD⟩ := va_join (wr := [(bk, .inr (0, [.ref rk0, .ref rk1, .ref rk2, .ref rk3, .ref eak, .int 0])), (rk3, .inr (6, [.int 4, .int 6, .ref cak3, .int 0]))]) (w1 := []) hP hD [0, 3] [1, 2] rfl rfl (by decide) (by decide) hk1 hFc tz_P0 tz_D0
      generalize H1 = H at hP hS ⊢
      have hP : va_P (dC, dI) vwCl [(bk, .inr (0, [.ref rk0, .ref rk1, .ref rk2, .ref rk3, .ref eak, .int 0])), (rk3, .inr (6, [.int 4, .int 6, .ref cak3, .int 0]))] H := hP
      have hD : va_D A [(bk, .inr (0, [.ref rk0, .ref rk1, .ref rk2, .ref rk3, .ref eak, .int 0])), (rk3, .inr (6, [.int 4, .int 6, .ref cak3, .int 0]))] := hD
      obtain rfl : (-10) = r_14 := hw_15.symm
      exact W.iret (v := (-10)) hx hb hr (fun t ht hW => ⟨⟨(-10), (), rfl, (if_neg hc_3).symm, trivial⟩, hS.F ht⟩) hS.2.2 dX11_look_25
    · exact absurd c_13 (by decide)
set_option maxRecDepth 20000 in
theorem ggX11_writeOff_X11_within : GoodIn wsX11_writeOff wsX11_within := goodIn_r _ [10] (by decide +kernel) (by decide +kernel)
set_option maxRecDepth 20000 in
theorem gX11_writeOff_X11_within : GoodIn wsX11_writeOff (va_wsS RX11 102 yX11_within wsX11_within) := goodIn_app (goodIn_of _ (by decide +kernel)) ggX11_writeOff_X11_within
set_option maxRecDepth 20000 in
theorem ggX11_writeOff_X6_size : GoodIn wsX11_writeOff wsX6_size := goodIn_r _ [24, 25, 54, 55, 56, 57] (by decide +kernel) (by decide +kernel)
set_option maxRecDepth 20000 in
theorem gX11_writeOff_X6_size : GoodIn wsX11_writeOff (wsV RX11 89 RX6 yX6_size wsX6_size) := goodIn_app (goodIn_of _ (by decide +kernel)) ggX11_writeOff_X6_size
set_option maxRecDepth 20000 in
theorem ggX11_writeOff_X11_refuse : GoodIn wsX11_writeOff wsX11_refuse := goodIn_r _ [14, 15, 16, 17, 9, 18, 19, 36, 37, 38, 39, 40, 41, 42, 43, 44, 45, 46, 47] (by decide +kernel) (by decide +kernel)
set_option maxRecDepth 20000 in
theorem gX11_writeOff_X11_refuse : GoodIn wsX11_writeOff (wsV RX11 106 RX11 yX11_refuse wsX11_refuse) := goodIn_app (goodIn_of _ (by decide +kernel)) ggX11_writeOff_X11_refuse
theorem dX11_writeOff_0 : decode cX11_writeOff 0 = .ok (.iload_n 1, 1) := by decide +kernel
theorem dX11_writeOff_1 : decode cX11_writeOff 1 = .ok (.sipush (-198), 3) := by decide +kernel
theorem dX11_writeOff_4 : decode cX11_writeOff 4 = .ok (.sipush 198, 3) := by decide +kernel
theorem dX11_writeOff_7 : decode cX11_writeOff 7 = .ok (.invokestatic 102, 3) := by decide +kernel
theorem dX11_writeOff_10 : decode cX11_writeOff 10 = .ok (.ifCond .eq 13, 3) := by decide +kernel
theorem dX11_writeOff_13 : decode cX11_writeOff 13 = .ok (.iload_n 2, 1) := by decide +kernel
theorem dX11_writeOff_14 : decode cX11_writeOff 14 = .ok (.iconst 0, 1) := by decide +kernel
theorem dX11_writeOff_15 : decode cX11_writeOff 15 = .ok (.bipush 99, 2) := by decide +kernel
theorem dX11_writeOff_17 : decode cX11_writeOff 17 = .ok (.invokestatic 102, 3) := by decide +kernel
theorem dX11_writeOff_20 : decode cX11_writeOff 20 = .ok (.ifCond .ne 10, 3) := by decide +kernel
theorem dX11_writeOff_30 : decode cX11_writeOff 30 = .ok (.iconst 0, 1) := by decide +kernel
theorem dX11_writeOff_31 : decode cX11_writeOff 31 = .ok (.istore_n 3, 1) := by decide +kernel
theorem dX11_writeOff_32 : decode cX11_writeOff 32 = .ok (.iload_n 3, 1) := by decide +kernel
theorem dX11_writeOff_33 : decode cX11_writeOff 33 = .ok (.aload_n 0, 1) := by decide +kernel
theorem dX11_writeOff_34 : decode cX11_writeOff 34 = .ok (.getfield 34, 3) := by decide +kernel
theorem dX11_writeOff_37 : decode cX11_writeOff 37 = .ok (.getfield 227, 3) := by decide +kernel
theorem dX11_writeOff_40 : decode cX11_writeOff 40 = .ok (.invokevirtual 89, 3) := by decide +kernel
theorem dX11_writeOff_43 : decode cX11_writeOff 43 = .ok (.if_icmp .ge 68, 3) := by decide +kernel
theorem dX11_writeOff_111 : decode cX11_writeOff 111 = .ok (.iconst 1, 1) := by decide +kernel
theorem dX11_writeOff_112 : decode cX11_writeOff 112 = .ok (.ireturn, 1) := by decide +kernel
theorem dX11_writeOff_23 : decode cX11_writeOff 23 = .ok (.aload_n 0, 1) := by decide +kernel
theorem dX11_writeOff_24 : decode cX11_writeOff 24 = .ok (.bipush (-2), 2) := by decide +kernel
theorem dX11_writeOff_26 : decode cX11_writeOff 26 = .ok (.invokevirtual 106, 3) := by decide +kernel
theorem dX11_writeOff_29 : decode cX11_writeOff 29 = .ok (.ireturn, 1) := by decide +kernel
set_option maxRecDepth 20000 in
theorem iw_k_x_writeOff_X11 : ∀ w ∈ wsX110, w ∈ wsX11_writeOff := by decide +kernel
set_option maxRecDepth 20000 in
theorem iw_k_x_writeOff_X0 : ∀ w ∈ wsX00, w ∈ wsX11_writeOff := by decide +kernel
set_option maxHeartbeats 4000000 in
set_option maxRecDepth 100000 in
theorem k_x_writeOff (l : Launch) (dC : Nat → ClassId) (dI : Nat → Nat → Nat) (o : Nat) (aw : Nat) (bk : Nat) (ai : Nat) (ak : Nat) (sc : Nat) (rd : Nat) (fo : Nat) (tx : Nat) (ar : Nat) (atr : Nat) (ao : Nat) (rk0 : Nat) (rk1 : Nat) (rk2 : Nat) (rk3 : Nat) (eak : Nat) (cak3 : Nat) (cr : ClassId) (na : Int32) (nb : Int32) (sz : Nat) : Met l yX11_writeOff wsX11_writeOff ({ frames := 2, cells := 0, slots := 0, locals := 44 }) (va_Pc [.ref o, .int na, .int nb] (fun U => U.heap.size = sz ∧ va_P (dC, dI) vwCl [(o, .inr (11, [.ref aw, .ref bk, .ref ai, .ref ak, .ref sc, .ref rd, .ref fo, .ref tx, .int 0, .ref ar, .ref atr, .ref ao])), (bk, .inr (0, [.ref rk0, .ref rk1, .ref rk2, .ref rk3, .ref eak, .int 0])), (rk3, .inr (6, [.int 4, .int 6, .ref cak3, .int 0])), (ar, .inl (cr, 3, .inl (fun _ => 0)))] U.heap ∧ va_K (dC, dI) vwCl [(cr, .int)] U ∧ va_D (fun _ => True) [(o, .inr (11, [.ref aw, .ref bk, .ref ai, .ref ak, .ref sc, .ref rd, .ref fo, .ref tx, .int 0, .ref ar, .ref atr, .ref ao])), (bk, .inr (0, [.ref rk0, .ref rk1, .ref rk2, .ref rk3, .ref eak, .int 0])), (rk3, .inr (6, [.int 4, .int 6, .ref cak3, .int 0])), (ar, .inl (cr, 3, .inl (fun _ => 0)))])) (va_Qi (fun (r : Int32) (_ : Unit) => r = (if (-198) ≤ na ∧ na ≤ 198 then (if 0 ≤ nb ∧ nb ≤ 99 then 1 else (-2)) else (-2))) (fun _ _ => True) (va_A [(o, .inr (11, [.ref aw, .ref bk, .ref ai, .ref ak, .ref sc, .ref rd, .ref fo, .ref tx, .int 0, .ref ar, .ref atr, .ref ao])), (bk, .inr (0, [.ref rk0, .ref rk1, .ref rk2, .ref rk3, .ref eak, .int 0])), (rk3, .inr (6, [.int 4, .int 6, .ref cak3, .int 0])), (ar, .inl (cr, 3, .inl (fun _ => 0)))] sz)) 0 0 (va_A [(o, .inr (11, [.ref aw, .ref bk, .ref ai, .ref ak, .ref sc, .ref rd, .ref fo, .ref tx, .int 0, .ref ar, .ref atr, .ref ao])), (bk, .inr (0, [.ref rk0, .ref rk1, .ref rk2, .ref rk3, .ref eak, .int 0])), (rk3, .inr (6, [.int 4, .int 6, .ref cak3, .int 0])), (ar, .inl (cr, 3, .inl (fun _ => 0)))] sz) := by
  refine Met.ofW (cc := cX11_writeOff) (maxL := 5) (ret := (some .int)) (by decide) rfl ?_
  intro p e s m args below meth c s₁ B hml hv
  obtain ⟨rfl, hsz, hP, hK, hD0⟩ := hv
  have hx := B.exec
  have hb := B.bytes
  have hr := B.returns
  have hts := atoms_spec (ws := wsX11_writeOff) B.pre
  have hown : s.vm.findClass RX11 = some m.cls := findClass_of_methodNamed B.named
  have hlocks := B.notSynchronized
  subst hsz
  have hD := hD0.self (sz := s.heap.size)
  generalize hAe : va_A [(o, .inr (11, [.ref aw, .ref bk, .ref ai, .ref ak, .ref sc, .ref rd, .ref fo, .ref tx, .int 0, .ref ar, .ref atr, .ref ao])), (bk, .inr (0, [.ref rk0, .ref rk1, .ref rk2, .ref rk3, .ref eak, .int 0])), (rk3, .inr (6, [.int 4, .int 6, .ref cak3, .int 0])), (ar, .inl (cr, 3, .inl (fun _ => 0)))] s.heap.size = A at hD ⊢
  have hA : ∀ q : Nat, s.heap.size ≤ q → A q := fun q h => by rw [← hAe]; exact Or.inr h
  have hS : va_S A s.heap s.heap [] := va_S.rf
  have hP : va_P (dC, dI) vwCl [(o, .inr (11, [.ref aw, .ref bk, .ref ai, .ref ak, .ref sc, .ref rd, .ref fo, .ref tx, .int 0, .ref ar, .ref atr, .ref ao])), (bk, .inr (0, [.ref rk0, .ref rk1, .ref rk2, .ref rk3, .ref eak, .int 0])), (rk3, .inr (6, [.int 4, .int 6, .ref cak3, .int 0])), (ar, .inl (cr, 3, .inl (fun _ => 0)))] s.heap := hP
  have hl := lv_entry ([.ref o, .int na, .int nb]) (n := 5) (Nat.le_of_ble_eq_true rfl)
  rw [lg_entry_eq]
  generalize (lg_sl ([.ref o, .int na, .int nb]) ++ List.replicate (5 - (lg_sl ([.ref o, .int na, .int nb])).length) Slot.unset).toArray = ls at hl ⊢
  have hl : lv_has ls 5 [(0, .ref o), (1, .int na), (2, .int nb)] := hl
  refine lv_iload_n hx hb dX11_writeOff_0 rfl (lv_at hl 1 rfl) ?_
  refine lv_sipush (v := (-198)) hx hb dX11_writeOff_1 (by decide) ?_
  refine lv_sipush (v := 198) hx hb dX11_writeOff_4 (by decide) ?_
  refine vp_callSi (va_Run.run (va_runS (As := [.int na, .int (-198), .int 198]) (rest := []) ⟨hx, hb, hml, hown, hts⟩ (k_within l dC dI na (-198) 198) (va_cwS 3 hts gX11_writeOff_X11_within rfl rfl rfl (by decide +kernel) ⟨Nat.le_of_ble_eq_true rfl, Nat.le_of_ble_eq_true rfl⟩) ⟨fun a U g mk q => ⟨q.1, trivial⟩, fun U hU hW => ⟨rfl, trivial⟩⟩ rfl rfl hl.1 rfl (lv_room (Nat.le_of_ble_eq_true rfl)) dX11_writeOff_7 ⟨Nat.le_of_ble_eq_true rfl, Nat.le_of_ble_eq_true rfl⟩)) (fun r_1 hw_2 => ?_)
  by_cases hc_3 : (-198) ≤ na ∧ na ≤ 198
  · obtain rfl : 1 = r_1 := (hw_2.trans (if_pos hc_3)).symm
    refine lv_if_eq (tgt := 23) hx hb dX11_writeOff_10 (by decide) (fun c_4 => ?_) (fun c_4 => ?_)
    · exact absurd c_4 (by decide)
    · refine lv_iload_n hx hb dX11_writeOff_13 rfl (lv_at hl 2 rfl) ?_
      refine lv_iconst (v := 0) hx hb dX11_writeOff_14 (by decide) ?_
      refine lv_bipush (v := 99) hx hb dX11_writeOff_15 (by decide) ?_
      refine vp_callSi (va_Run.run (va_runS (As := [.int nb, .int 0, .int 99]) (rest := []) ⟨hx, hb, hml, hown, hts⟩ (k_within l dC dI nb 0 99) (va_cwS 3 hts gX11_writeOff_X11_within rfl rfl rfl (by decide +kernel) ⟨Nat.le_of_ble_eq_true rfl, Nat.le_of_ble_eq_true rfl⟩) ⟨fun a U g mk q => ⟨q.1, trivial⟩, fun U hU hW => ⟨rfl, trivial⟩⟩ rfl rfl hl.1 rfl (lv_room (Nat.le_of_ble_eq_true rfl)) dX11_writeOff_17 ⟨Nat.le_of_ble_eq_true rfl, Nat.le_of_ble_eq_true rfl⟩)) (fun r_5 hw_6 => ?_)
      by_cases hc_7 : 0 ≤ nb ∧ nb ≤ 99
      · obtain rfl : 1 = r_5 := (hw_6.trans (if_pos hc_7)).symm
        refine lv_if_ne (tgt := 30) hx hb dX11_writeOff_20 (by decide) (fun c_8 => ?_) (fun c_8 => ?_)
        · refine lv_iconst (v := 0) hx hb dX11_writeOff_30 (by decide) ?_
          refine lv_istore_n (lv' := [(3, .int 0), (0, .ref o), (1, .int na), (2, .int nb)]) hx hb dX11_writeOff_31 rfl hl (by decide) rfl (fun ls hl => ?_)
          refine lv_iload_n hx hb dX11_writeOff_32 rfl (lv_at hl 0 rfl) ?_
          refine lv_aload_n hx hb dX11_writeOff_33 rfl (lv_at hl 1 rfl) ?_
          refine va_get (D := (dC, dI)) (ci := 11) (v := .ref bk) (C := RX11) (T := TX11) (N := 12) hx hb hts iw_k_x_writeOff_X11 hown hK hP 0 rfl rfl 1 (by decide) (hts (.fieldLink RX11 34 "ThriceCounted" "bank" "LThriceCounted$Bank;") (by decide +kernel)) (fun _ h9 => h9) rfl dX11_writeOff_34 ?_
          refine va_get (D := (dC, dI)) (ci := 0) (v := .ref rk3) (C := RX0) (T := TX0) (N := 6) hx hb hts iw_k_x_writeOff_X0 hown hK hP 1 rfl rfl 3 (by decide) (hts (.fieldLink RX11 227 "ThriceCounted$Bank" "causes" "LThriceCounted$Rows;") (by decide +kernel)) (fun _ h9 => h9) rfl dX11_writeOff_37 ?_
          have hPc_9 := hP.sub (ws' := [(rk3, .inr (6, [.int 4, .int 6, .ref cak3, .int 0]))]) [2] rfl
          have hKc_10 := hK.sub (tys' := []) [] rfl
          refine vp_callSi (va_Run.run (va_runV (As := []) (rest := [.int 0]) ⟨hx, hb, hml, hown, hts⟩ (k_size l dC dI rk3 (.int 4) (.int 6) (.ref cak3) 0) (cwV 0 hts gX11_writeOff_X6_size rfl rfl rfl (by decide +kernel) ⟨Nat.le_of_ble_eq_true rfl, Nat.le_of_ble_eq_true rfl⟩) ⟨fun a U g mk q => by obtain ⟨q0, qP, qK⟩ := q; exact ⟨q0, qP, va_K.moved (u := U) (U := U.calling g mk a) (Vm.Alike.refl U.vm) qK⟩, va_recv hK hP (ci := 6) (q0 := 2) rfl rfl, fun U hU hW => ⟨rfl, by rw [hU]; exact hPc_9, va_K.moved hW.alike hKc_10⟩⟩ rfl rfl hl.1 rfl (lv_room (Nat.le_of_ble_eq_true rfl)) dX11_writeOff_40 ⟨Nat.le_of_ble_eq_true rfl, Nat.le_of_ble_eq_true rfl⟩)) (fun r_11 hw_12 => ?_)
          obtain rfl : 0 = r_11 := hw_12.symm
          refine lv_icmp_ge (tgt := 111) hx hb dX11_writeOff_43 (by decide) (fun c_13 => ?_) (fun c_13 => ?_)
          · refine lv_iconst (v := 1) hx hb dX11_writeOff_111 (by decide) ?_
            exact W.iret (v := 1) hx hb hr (fun t ht hW => ⟨⟨1, (), rfl, ((if_pos hc_3).trans (if_pos hc_7)).symm, trivial⟩, hS.F ht⟩) hS.2.2 dX11_writeOff_112
          · exact absurd c_13 (by decide)
        · exact absurd c_8 (by decide)
      · obtain rfl : 0 = r_5 := (hw_6.trans (if_neg hc_7)).symm
        refine lv_if_ne (tgt := 30) hx hb dX11_writeOff_20 (by decide) (fun c_14 => ?_) (fun c_14 => ?_)
        · exact absurd c_14 (by decide)
        · refine lv_aload_n hx hb dX11_writeOff_23 rfl (lv_at hl 0 rfl) ?_
          refine lv_bipush (v := (-2)) hx hb dX11_writeOff_24 (by decide) ?_
          have hPc := hP.sub (ws' := [(o, .inr (11, [.ref aw, .ref bk, .ref ai, .ref ak, .ref sc, .ref rd, .ref fo, .ref tx, .int 0, .ref ar, .ref atr, .ref ao])), (ar, .inl (cr, 3, .inl (fun _ => 0)))]) [0, 3] rfl
          have hDc := hD.sub (ws' := [(o, .inr (11, [.ref aw, .ref bk, .ref ai, .ref ak, .ref sc, .ref rd, .ref fo, .ref tx, .int 0, .ref ar, .ref atr, .ref ao])), (ar, .inl (cr, 3, .inl (fun _ => 0)))]) [0, 3] (by decide) rfl
          have hKc := hK.sub (tys' := [(cr, .int)]) [0] rfl
          have hFc := va_free (wc := [(o, .inr (11, [.ref aw, .ref bk, .ref ai, .ref ak, .ref sc, .ref rd, .ref fo, .ref tx, .int 0, .ref ar, .ref atr, .ref ao])), (ar, .inl (cr, 3, .inl (fun _ => 0)))]) hD hS hA [0, 3] rfl
          refine va_calli (va_runV (As := [.int (-2)]) (rest := []) ⟨hx, hb, hml, hown, hts⟩ (k_refuse l dC dI o (.ref aw) (.ref bk) (.ref ai) (.ref ak) (.ref sc) (.ref rd) (.ref fo) (.ref tx) (.int 0) ar (.ref atr) (.ref ao) cr (fun _ => 0) (-2) s.heap.size) (cwV 1 hts gX11_writeOff_X11_refuse rfl rfl rfl (by decide +kernel) ⟨Nat.le_of_ble_eq_true rfl, Nat.le_of_ble_eq_true rfl⟩) ⟨fun a U g mk q => by obtain ⟨q0, q1, qP, qK, qD⟩ := q; exact ⟨q0, q1, qP, va_K.moved (u := U) (U := U.calling g mk a) (Vm.Alike.refl U.vm) qK, qD⟩, va_recv hK hP (ci := 11) (q0 := 0) rfl rfl, fun U hU hW => ⟨rfl, by rw [hU], by rw [hU]; exact hPc, va_K.moved hW.alike hKc, hDc.weaken (fun _ _ _ _ => trivial)⟩⟩ rfl rfl hl.1 rfl (lv_room (Nat.le_of_ble_eq_true rfl)) dX11_writeOff_26 ⟨Nat.le_of_ble_eq_true rfl, Nat.le_of_ble_eq_true rfl⟩) hS (fun q _ h => hFc q h) hFc (fun r_15 u_ t H1 locs ht hvm hw_16 hB hz1 hk1 hS => ?_)
          obtain ⟨hP, hD⟩ := va_join (wr := [(bk, .inr (0, [.ref rk0, .ref rk1, .ref rk2, .ref rk3, .ref eak, .int 0])), (rk3, .inr (6, [.int 4, .int 6, .ref cak3, .int 0]))]) (w1 := []) hP hD [0, 3] [1, 2] rfl rfl (by decide) (by decide) hk1 hFc tz_P0 tz_D0
          generalize H1 = H at hP hS ⊢
          have hP : va_P (dC, dI) vwCl [(bk, .inr (0, [.ref rk0, .ref rk1, .ref rk2, .ref rk3, .ref eak, .int 0])), (rk3, .inr (6, [.int 4, .int 6, .ref cak3, .int 0]))] H := hP
          have hD : va_D A [(bk, .inr (0, [.ref rk0, .ref rk1, .ref rk2, .ref rk3, .ref eak, .int 0])), (rk3, .inr (6, [.int 4, .int 6, .ref cak3, .int 0]))] := hD
          obtain rfl : (-2) = r_15 := hw_16.symm
          exact W.iret (v := (-2)) hx hb hr (fun t ht hW => ⟨⟨(-2), (), rfl, ((if_pos hc_3).trans (if_neg hc_7)).symm, trivial⟩, hS.F ht⟩) hS.2.2 dX11_writeOff_29
  · obtain rfl : 0 = r_1 := (hw_2.trans (if_neg hc_3)).symm
    refine lv_if_eq (tgt := 23) hx hb dX11_writeOff_10 (by decide) (fun c_17 => ?_) (fun c_17 => ?_)
    · refine lv_aload_n hx hb dX11_writeOff_23 rfl (lv_at hl 0 rfl) ?_
      refine lv_bipush (v := (-2)) hx hb dX11_writeOff_24 (by decide) ?_
      have hPc := hP.sub (ws' := [(o, .inr (11, [.ref aw, .ref bk, .ref ai, .ref ak, .ref sc, .ref rd, .ref fo, .ref tx, .int 0, .ref ar, .ref atr, .ref ao])), (ar, .inl (cr, 3, .inl (fun _ => 0)))]) [0, 3] rfl
      have hDc := hD.sub (ws' := [(o, .inr (11, [.ref aw, .ref bk, .ref ai, .ref ak, .ref sc, .ref rd, .ref fo, .ref tx, .int 0, .ref ar, .ref atr, .ref ao])), (ar, .inl (cr, 3, .inl (fun _ => 0)))]) [0, 3] (by decide) rfl
      have hKc := hK.sub (tys' := [(cr, .int)]) [0] rfl
      have hFc := va_free (wc := [(o, .inr (11, [.ref aw, .ref bk, .ref ai, .ref ak, .ref sc, .ref rd, .ref fo, .ref tx, .int 0, .ref ar, .ref atr, .ref ao])), (ar, .inl (cr, 3, .inl (fun _ => 0)))]) hD hS hA [0, 3] rfl
      refine va_calli (va_runV (As := [.int (-2)]) (rest := []) ⟨hx, hb, hml, hown, hts⟩ (k_refuse l dC dI o (.ref aw) (.ref bk) (.ref ai) (.ref ak) (.ref sc) (.ref rd) (.ref fo) (.ref tx) (.int 0) ar (.ref atr) (.ref ao) cr (fun _ => 0) (-2) s.heap.size) (cwV 1 hts gX11_writeOff_X11_refuse rfl rfl rfl (by decide +kernel) ⟨Nat.le_of_ble_eq_true rfl, Nat.le_of_ble_eq_true rfl⟩) ⟨fun a U g mk q => by obtain ⟨q0, q1, qP, qK, qD⟩ := q; exact ⟨q0, q1, qP, va_K.moved (u := U) (U := U.calling g mk a) (Vm.Alike.refl U.vm) qK, qD⟩, va_recv hK hP (ci := 11) (q0 := 0) rfl rfl, fun U hU hW => ⟨rfl, by rw [hU], by rw [hU]; exact hPc, va_K.moved hW.alike hKc, hDc.weaken (fun _ _ _ _ => trivial)⟩⟩ rfl rfl hl.1 rfl (lv_room (Nat.le_of_ble_eq_true rfl)) dX11_writeOff_26 ⟨Nat.le_of_ble_eq_true rfl, Nat.le_of_ble_eq_true rfl⟩) hS (fun q _ h => hFc q h) hFc (fun r_18 u_ t H1 locs ht hvm hw_19 hB hz1 hk1 hS => ?_)
      obtain ⟨hP, hD⟩ := va_join (wr := [(bk, .inr (0, [.ref rk0, .ref rk1, .ref rk2, .ref rk3, .ref eak, .int 0])), (rk3, .inr (6, [.int 4, .int 6, .ref cak3, .int 0]))]) (w1 := []) hP hD [0, 3] [1, 2] rfl rfl (by decide) (by decide) hk1 hFc tz_P0 tz_D0
      generalize H1 = H at hP hS ⊢
      have hP : va_P (dC, dI) vwCl [(bk, .inr (0, [.ref rk0, .ref rk1, .ref rk2, .ref rk3, .ref eak, .int 0])), (rk3, .inr (6, [.int 4, .int 6, .ref cak3, .int 0]))] H := hP
      have hD : va_D A [(bk, .inr (0, [.ref rk0, .ref rk1, .ref rk2, .ref rk3, .ref eak, .int 0])), (rk3, .inr (6, [.int 4, .int 6, .ref cak3, .int 0]))] := hD
      obtain rfl : (-2) = r_18 := hw_19.symm
      exact W.iret (v := (-2)) hx hb hr (fun t ht hW => ⟨⟨(-2), (), rfl, (if_neg hc_3).symm, trivial⟩, hS.F ht⟩) hS.2.2 dX11_writeOff_29
    · exact absurd c_17 (by decide)
set_option maxRecDepth 20000 in
theorem ggX11_part_X11_within : GoodIn wsX11_part wsX11_within := goodIn_r _ [5] (by decide +kernel) (by decide +kernel)
set_option maxRecDepth 20000 in
theorem gX11_part_X11_within : GoodIn wsX11_part (va_wsS RX11 102 yX11_within wsX11_within) := goodIn_app (goodIn_of _ (by decide +kernel)) ggX11_part_X11_within
set_option maxRecDepth 20000 in
theorem ggX11_part_X2_below : GoodIn wsX11_part wsX2_below := goodIn_r _ [24, 25, 38, 39] (by decide +kernel) (by decide +kernel)
set_option maxRecDepth 20000 in
theorem gX11_part_X2_below : GoodIn wsX11_part (wsV RX11 274 RX2 yX2_below wsX2_below) := goodIn_app (goodIn_of _ (by decide +kernel)) ggX11_part_X2_below
set_option maxRecDepth 20000 in
theorem ggX11_part_X2_above : GoodIn wsX11_part wsX2_above := goodIn_r _ [19, 20, 38, 39] (by decide +kernel) (by decide +kernel)
set_option maxRecDepth 20000 in
theorem gX11_part_X2_above : GoodIn wsX11_part (wsV RX11 271 RX2 yX2_above wsX2_above) := goodIn_app (goodIn_of _ (by decide +kernel)) ggX11_part_X2_above
set_option maxRecDepth 20000 in
theorem ggX11_part_X11_refuse : GoodIn wsX11_part wsX11_refuse := goodIn_r _ [9, 10, 11, 12, 4, 13, 14, 26, 27, 28, 29, 30, 31, 32, 33, 34, 35, 36, 37] (by decide +kernel) (by decide +kernel)
set_option maxRecDepth 20000 in
theorem gX11_part_X11_refuse : GoodIn wsX11_part (wsV RX11 106 RX11 yX11_refuse wsX11_refuse) := goodIn_app (goodIn_of _ (by decide +kernel)) ggX11_part_X11_refuse
theorem dX11_part_0 : decode cX11_part 0 = .ok (.iload_n 1, 1) := by decide +kernel
theorem dX11_part_1 : decode cX11_part 1 = .ok (.iconst 0, 1) := by decide +kernel
theorem dX11_part_2 : decode cX11_part 2 = .ok (.iconst 1, 1) := by decide +kernel
theorem dX11_part_3 : decode cX11_part 3 = .ok (.invokestatic 102, 3) := by decide +kernel
theorem dX11_part_6 : decode cX11_part 6 = .ok (.ifCond .ne 11, 3) := by decide +kernel
theorem dX11_part_17 : decode cX11_part 17 = .ok (.iload_n 1, 1) := by decide +kernel
theorem dX11_part_18 : decode cX11_part 18 = .ok (.ifCond .ne 13, 3) := by decide +kernel
theorem dX11_part_31 : decode cX11_part 31 = .ok (.aload_n 0, 1) := by decide +kernel
theorem dX11_part_32 : decode cX11_part 32 = .ok (.getfield 63, 3) := by decide +kernel
theorem dX11_part_35 : decode cX11_part 35 = .ok (.invokevirtual 274, 3) := by decide +kernel
theorem dX11_part_38 : decode cX11_part 38 = .ok (.lreturn, 1) := by decide +kernel
theorem dX11_part_21 : decode cX11_part 21 = .ok (.aload_n 0, 1) := by decide +kernel
theorem dX11_part_22 : decode cX11_part 22 = .ok (.getfield 63, 3) := by decide +kernel
theorem dX11_part_25 : decode cX11_part 25 = .ok (.invokevirtual 271, 3) := by decide +kernel
theorem dX11_part_28 : decode cX11_part 28 = .ok (.goto 10, 3) := by decide +kernel
theorem dX11_part_9 : decode cX11_part 9 = .ok (.aload_n 0, 1) := by decide +kernel
theorem dX11_part_10 : decode cX11_part 10 = .ok (.bipush (-2), 2) := by decide +kernel
theorem dX11_part_12 : decode cX11_part 12 = .ok (.invokevirtual 106, 3) := by decide +kernel
theorem dX11_part_15 : decode cX11_part 15 = .ok (.i2l, 1) := by decide +kernel
theorem dX11_part_16 : decode cX11_part 16 = .ok (.lreturn, 1) := by decide +kernel
set_option maxRecDepth 20000 in
theorem iw_k_x_part_X11 : ∀ w ∈ wsX110, w ∈ wsX11_part := by decide +kernel
set_option maxHeartbeats 4000000 in
set_option maxRecDepth 100000 in
theorem k_x_part (l : Launch) (dC : Nat → ClassId) (dI : Nat → Nat → Nat) (o : Nat) (aw : Nat) (bk : Nat) (ai : Nat) (ak : Nat) (sc : Nat) (rd : Nat) (fo : Nat) (tx : Nat) (ar : Nat) (atr : Nat) (ao : Nat) (cr : ClassId) (na : Int32) (sz : Nat) : Met l yX11_part wsX11_part ({ frames := 2, cells := 0, slots := 0, locals := 44 }) (va_Pc [.ref o, .int na] (fun U => U.heap.size = sz ∧ va_P (dC, dI) vwCl [(o, .inr (11, [.ref aw, .ref bk, .ref ai, .ref ak, .ref sc, .ref rd, .ref fo, .ref tx, .int 0, .ref ar, .ref atr, .ref ao])), (fo, .inr (2, [.long 0, .long 1])), (ar, .inl (cr, 3, .inl (fun _ => 0)))] U.heap ∧ va_K (dC, dI) vwCl [(cr, .int)] U ∧ va_D (fun _ => True) [(o, .inr (11, [.ref aw, .ref bk, .ref ai, .ref ak, .ref sc, .ref rd, .ref fo, .ref tx, .int 0, .ref ar, .ref atr, .ref ao])), (fo, .inr (2, [.long 0, .long 1])), (ar, .inl (cr, 3, .inl (fun _ => 0)))])) (va_Ql (fun (r : Int64) (_ : Unit) => r = (if 0 ≤ na ∧ na ≤ 1 then (if na = 0 then 0 else 1) else (-2))) (fun _ _ => True) (va_A [(o, .inr (11, [.ref aw, .ref bk, .ref ai, .ref ak, .ref sc, .ref rd, .ref fo, .ref tx, .int 0, .ref ar, .ref atr, .ref ao])), (fo, .inr (2, [.long 0, .long 1])), (ar, .inl (cr, 3, .inl (fun _ => 0)))] sz)) 0 0 (va_A [(o, .inr (11, [.ref aw, .ref bk, .ref ai, .ref ak, .ref sc, .ref rd, .ref fo, .ref tx, .int 0, .ref ar, .ref atr, .ref ao])), (fo, .inr (2, [.long 0, .long 1])), (ar, .inl (cr, 3, .inl (fun _ => 0)))] sz) := by
  refine Met.ofW (cc := cX11_part) (maxL := 2) (ret := (some .long)) (by decide) rfl ?_
  intro p e s m args below meth c s₁ B hml hv
  obtain ⟨rfl, hsz, hP, hK, hD0⟩ := hv
  have hx := B.exec
  have hb := B.bytes
  have hr := B.returns
  have hts := atoms_spec (ws := wsX11_part) B.pre
  have hown : s.vm.findClass RX11 = some m.cls := findClass_of_methodNamed B.named
  have hlocks := B.notSynchronized
  subst hsz
  have hD := hD0.self (sz := s.heap.size)
  generalize hAe : va_A [(o, .inr (11, [.ref aw, .ref bk, .ref ai, .ref ak, .ref sc, .ref rd, .ref fo, .ref tx, .int 0, .ref ar, .ref atr, .ref ao])), (fo, .inr (2, [.long 0, .long 1])), (ar, .inl (cr, 3, .inl (fun _ => 0)))] s.heap.size = A at hD ⊢
  have hA : ∀ q : Nat, s.heap.size ≤ q → A q := fun q h => by rw [← hAe]; exact Or.inr h
  have hS : va_S A s.heap s.heap [] := va_S.rf
  have hP : va_P (dC, dI) vwCl [(o, .inr (11, [.ref aw, .ref bk, .ref ai, .ref ak, .ref sc, .ref rd, .ref fo, .ref tx, .int 0, .ref ar, .ref atr, .ref ao])), (fo, .inr (2, [.long 0, .long 1])), (ar, .inl (cr, 3, .inl (fun _ => 0)))] s.heap := hP
  have hl := lv_entry ([.ref o, .int na]) (n := 2) (Nat.le_of_ble_eq_true rfl)
  rw [lg_entry_eq]
  generalize (lg_sl ([.ref o, .int na]) ++ List.replicate (2 - (lg_sl ([.ref o, .int na])).length) Slot.unset).toArray = ls at hl ⊢
  have hl : lv_has ls 2 [(0, .ref o), (1, .int na)] := hl
  refine lv_iload_n hx hb dX11_part_0 rfl (lv_at hl 1 rfl) ?_
  refine lv_iconst (v := 0) hx hb dX11_part_1 (by decide) ?_
  refine lv_iconst (v := 1) hx hb dX11_part_2 (by decide) ?_
  refine vp_callSi (va_Run.run (va_runS (As := [.int na, .int 0, .int 1]) (rest := []) ⟨hx, hb, hml, hown, hts⟩ (k_within l dC dI na 0 1) (va_cwS 3 hts gX11_part_X11_within rfl rfl rfl (by decide +kernel) ⟨Nat.le_of_ble_eq_true rfl, Nat.le_of_ble_eq_true rfl⟩) ⟨fun a U g mk q => ⟨q.1, trivial⟩, fun U hU hW => ⟨rfl, trivial⟩⟩ rfl rfl hl.1 rfl (lv_room (Nat.le_of_ble_eq_true rfl)) dX11_part_3 ⟨Nat.le_of_ble_eq_true rfl, Nat.le_of_ble_eq_true rfl⟩)) (fun r_1 hw_2 => ?_)
  by_cases hc_3 : 0 ≤ na ∧ na ≤ 1
  · obtain rfl : 1 = r_1 := (hw_2.trans (if_pos hc_3)).symm
    refine lv_if_ne (tgt := 17) hx hb dX11_part_6 (by decide) (fun c_4 => ?_) (fun c_4 => ?_)
    · refine lv_iload_n hx hb dX11_part_17 rfl (lv_at hl 1 rfl) ?_
      refine lv_if_ne (tgt := 31) hx hb dX11_part_18 (by decide) (fun c_5 => ?_) (fun c_5 => ?_)
      · refine lv_aload_n hx hb dX11_part_31 rfl (lv_at hl 0 rfl) ?_
        refine va_get (D := (dC, dI)) (ci := 11) (v := .ref fo) (C := RX11) (T := TX11) (N := 12) hx hb hts iw_k_x_part_X11 hown hK hP 0 rfl rfl 6 (by decide) (hts (.fieldLink RX11 63 "ThriceCounted" "fraction" "LThriceCounted$Fraction;") (by decide +kernel)) (fun _ h9 => h9) rfl dX11_part_32 ?_
        have hPc_6 := hP.sub (ws' := [(fo, .inr (2, [.long 0, .long 1]))]) [1] rfl
        have hKc_7 := hK.sub (tys' := []) [] rfl
        refine vp_callSl (va_Run.run (va_runV (As := []) (rest := []) ⟨hx, hb, hml, hown, hts⟩ (k_below l dC dI fo (.long 0) 1) (cwV 0 hts gX11_part_X2_below rfl rfl rfl (by decide +kernel) ⟨Nat.le_of_ble_eq_true rfl, Nat.le_of_ble_eq_true rfl⟩) ⟨fun a U g mk q => by obtain ⟨q0, qP, qK⟩ := q; exact ⟨q0, qP, va_K.moved (u := U) (U := U.calling g mk a) (Vm.Alike.refl U.vm) qK⟩, va_recv hK hP (ci := 2) (q0 := 1) rfl rfl, fun U hU hW => ⟨rfl, by rw [hU]; exact hPc_6, va_K.moved hW.alike hKc_7⟩⟩ rfl rfl hl.1 rfl (lv_room (Nat.le_of_ble_eq_true rfl)) dX11_part_35 ⟨Nat.le_of_ble_eq_true rfl, Nat.le_of_ble_eq_true rfl⟩)) (fun r_8 hw_9 => ?_)
        obtain rfl : 1 = r_8 := hw_9.symm
        exact W.lret (v := 1) hx hb hr (fun t ht hW => ⟨⟨1, (), rfl, ((if_pos hc_3).trans (if_neg c_5)).symm, trivial⟩, hS.F ht⟩) hS.2.2 dX11_part_38
      · refine lv_aload_n hx hb dX11_part_21 rfl (lv_at hl 0 rfl) ?_
        refine va_get (D := (dC, dI)) (ci := 11) (v := .ref fo) (C := RX11) (T := TX11) (N := 12) hx hb hts iw_k_x_part_X11 hown hK hP 0 rfl rfl 6 (by decide) (hts (.fieldLink RX11 63 "ThriceCounted" "fraction" "LThriceCounted$Fraction;") (by decide +kernel)) (fun _ h9 => h9) rfl dX11_part_22 ?_
        have hPc_10 := hP.sub (ws' := [(fo, .inr (2, [.long 0, .long 1]))]) [1] rfl
        have hKc_11 := hK.sub (tys' := []) [] rfl
        refine vp_callSl (va_Run.run (va_runV (As := []) (rest := []) ⟨hx, hb, hml, hown, hts⟩ (k_above l dC dI fo 0 (.long 1)) (cwV 0 hts gX11_part_X2_above rfl rfl rfl (by decide +kernel) ⟨Nat.le_of_ble_eq_true rfl, Nat.le_of_ble_eq_true rfl⟩) ⟨fun a U g mk q => by obtain ⟨q0, qP, qK⟩ := q; exact ⟨q0, qP, va_K.moved (u := U) (U := U.calling g mk a) (Vm.Alike.refl U.vm) qK⟩, va_recv hK hP (ci := 2) (q0 := 1) rfl rfl, fun U hU hW => ⟨rfl, by rw [hU]; exact hPc_10, va_K.moved hW.alike hKc_11⟩⟩ rfl rfl hl.1 rfl (lv_room (Nat.le_of_ble_eq_true rfl)) dX11_part_25 ⟨Nat.le_of_ble_eq_true rfl, Nat.le_of_ble_eq_true rfl⟩)) (fun r_12 hw_13 => ?_)
        obtain rfl : 0 = r_12 := hw_13.symm
        refine lv_goto (tgt := 38) hx hb dX11_part_28 (by decide) ?_
        exact W.lret (v := 0) hx hb hr (fun t ht hW => ⟨⟨0, (), rfl, ((if_pos hc_3).trans (if_pos c_5)).symm, trivial⟩, hS.F ht⟩) hS.2.2 dX11_part_38
    · exact absurd c_4 (by decide)
  · obtain rfl : 0 = r_1 := (hw_2.trans (if_neg hc_3)).symm
    refine lv_if_ne (tgt := 17) hx hb dX11_part_6 (by decide) (fun c_14 => ?_) (fun c_14 => ?_)
    · exact absurd c_14 (by decide)
    · refine lv_aload_n hx hb dX11_part_9 rfl (lv_at hl 0 rfl) ?_
      refine lv_bipush (v := (-2)) hx hb dX11_part_10 (by decide) ?_
      have hPc := hP.sub (ws' := [(o, .inr (11, [.ref aw, .ref bk, .ref ai, .ref ak, .ref sc, .ref rd, .ref fo, .ref tx, .int 0, .ref ar, .ref atr, .ref ao])), (ar, .inl (cr, 3, .inl (fun _ => 0)))]) [0, 2] rfl
      have hDc := hD.sub (ws' := [(o, .inr (11, [.ref aw, .ref bk, .ref ai, .ref ak, .ref sc, .ref rd, .ref fo, .ref tx, .int 0, .ref ar, .ref atr, .ref ao])), (ar, .inl (cr, 3, .inl (fun _ => 0)))]) [0, 2] (by decide) rfl
      have hKc := hK.sub (tys' := [(cr, .int)]) [0] rfl
      have hFc := va_free (wc := [(o, .inr (11, [.ref aw, .ref bk, .ref ai, .ref ak, .ref sc, .ref rd, .ref fo, .ref tx, .int 0, .ref ar, .ref atr, .ref ao])), (ar, .inl (cr, 3, .inl (fun _ => 0)))]) hD hS hA [0, 2] rfl
      refine va_calli (va_runV (As := [.int (-2)]) (rest := []) ⟨hx, hb, hml, hown, hts⟩ (k_refuse l dC dI o (.ref aw) (.ref bk) (.ref ai) (.ref ak) (.ref sc) (.ref rd) (.ref fo) (.ref tx) (.int 0) ar (.ref atr) (.ref ao) cr (fun _ => 0) (-2) s.heap.size) (cwV 1 hts gX11_part_X11_refuse rfl rfl rfl (by decide +kernel) ⟨Nat.le_of_ble_eq_true rfl, Nat.le_of_ble_eq_true rfl⟩) ⟨fun a U g mk q => by obtain ⟨q0, q1, qP, qK, qD⟩ := q; exact ⟨q0, q1, qP, va_K.moved (u := U) (U := U.calling g mk a) (Vm.Alike.refl U.vm) qK, qD⟩, va_recv hK hP (ci := 11) (q0 := 0) rfl rfl, fun U hU hW => ⟨rfl, by rw [hU], by rw [hU]; exact hPc, va_K.moved hW.alike hKc, hDc.weaken (fun _ _ _ _ => trivial)⟩⟩ rfl rfl hl.1 rfl (lv_room (Nat.le_of_ble_eq_true rfl)) dX11_part_12 ⟨Nat.le_of_ble_eq_true rfl, Nat.le_of_ble_eq_true rfl⟩) hS (fun q _ h => hFc q h) hFc (fun r_15 u_ t H1 locs ht hvm hw_16 hB hz1 hk1 hS => ?_)
      obtain ⟨hP, hD⟩ := va_join (wr := [(fo, .inr (2, [.long 0, .long 1]))]) (w1 := []) hP hD [0, 2] [1] rfl rfl (by decide) (by decide) hk1 hFc tz_P0 tz_D0
      generalize H1 = H at hP hS ⊢
      have hP : va_P (dC, dI) vwCl [(fo, .inr (2, [.long 0, .long 1]))] H := hP
      have hD : va_D A [(fo, .inr (2, [.long 0, .long 1]))] := hD
      obtain rfl : (-2) = r_15 := hw_16.symm
      refine lv_i2l (v := (-2)) hx hb dX11_part_15 (by decide) ?_
      exact W.lret (v := (-2)) hx hb hr (fun t ht hW => ⟨⟨(-2), (), rfl, (if_neg hc_3).symm, trivial⟩, hS.F ht⟩) hS.2.2 dX11_part_16
set_option maxRecDepth 20000 in
theorem ggX11_image_X11_isImage : GoodIn wsX11_image wsX11_isImage := goodIn_r _ [8, 1, 3, 46, 47, 48, 49, 50, 51, 52, 53, 54, 55, 56, 57] (by decide +kernel) (by decide +kernel)
set_option maxRecDepth 20000 in
theorem gX11_image_X11_isImage : GoodIn wsX11_image (wsV RX11 277 RX11 yX11_isImage wsX11_isImage) := goodIn_app (goodIn_of _ (by decide +kernel)) ggX11_image_X11_isImage
set_option maxRecDepth 20000 in
theorem ggX11_image_X0_copyFrom : GoodIn wsX11_image wsX0_copyFrom := goodIn_r _ [22, 23, 24, 25, 26, 27, 28, 29, 30, 31, 32, 33, 34, 35, 36, 37, 38, 39, 40, 41, 42, 43, 44, 45, 58, 59, 60, 61, 62, 63, 64, 65, 66, 67] (by decide +kernel) (by decide +kernel)
set_option maxRecDepth 20000 in
theorem gX11_image_X0_copyFrom : GoodIn wsX11_image (wsV RX11 165 RX0 yX0_copyFrom wsX0_copyFrom) := goodIn_app (goodIn_of _ (by decide +kernel)) ggX11_image_X0_copyFrom
set_option maxRecDepth 20000 in
theorem ggX11_image_X11_refuse : GoodIn wsX11_image wsX11_refuse := goodIn_r _ [12, 13, 14, 15, 7, 16, 17, 46, 47, 48, 49, 50, 51, 52, 53, 54, 55, 56, 57] (by decide +kernel) (by decide +kernel)
set_option maxRecDepth 20000 in
theorem gX11_image_X11_refuse : GoodIn wsX11_image (wsV RX11 106 RX11 yX11_refuse wsX11_refuse) := goodIn_app (goodIn_of _ (by decide +kernel)) ggX11_image_X11_refuse
theorem dX11_image_0 : decode cX11_image 0 = .ok (.aload_n 0, 1) := by decide +kernel
theorem dX11_image_1 : decode cX11_image 1 = .ok (.iload_n 1, 1) := by decide +kernel
theorem dX11_image_2 : decode cX11_image 2 = .ok (.invokevirtual 277, 3) := by decide +kernel
theorem dX11_image_5 : decode cX11_image 5 = .ok (.ifCond .ne 10, 3) := by decide +kernel
theorem dX11_image_15 : decode cX11_image 15 = .ok (.aload_n 0, 1) := by decide +kernel
theorem dX11_image_16 : decode cX11_image 16 = .ok (.getfield 38, 3) := by decide +kernel
theorem dX11_image_19 : decode cX11_image 19 = .ok (.iload_n 1, 1) := by decide +kernel
theorem dX11_image_20 : decode cX11_image 20 = .ok (.aaload, 1) := by decide +kernel
theorem dX11_image_21 : decode cX11_image 21 = .ok (.aload_n 0, 1) := by decide +kernel
theorem dX11_image_22 : decode cX11_image 22 = .ok (.getfield 34, 3) := by decide +kernel
theorem dX11_image_25 : decode cX11_image 25 = .ok (.invokevirtual 165, 3) := by decide +kernel
theorem dX11_image_28 : decode cX11_image 28 = .ok (.aload_n 0, 1) := by decide +kernel
theorem dX11_image_29 : decode cX11_image 29 = .ok (.getfield 42, 3) := by decide +kernel
theorem dX11_image_32 : decode cX11_image 32 = .ok (.iload_n 1, 1) := by decide +kernel
theorem dX11_image_33 : decode cX11_image 33 = .ok (.iconst 1, 1) := by decide +kernel
theorem dX11_image_34 : decode cX11_image 34 = .ok (.bastore, 1) := by decide +kernel
theorem dX11_image_35 : decode cX11_image 35 = .ok (.iconst 1, 1) := by decide +kernel
theorem dX11_image_36 : decode cX11_image 36 = .ok (.ireturn, 1) := by decide +kernel
theorem dX11_image_8 : decode cX11_image 8 = .ok (.aload_n 0, 1) := by decide +kernel
theorem dX11_image_9 : decode cX11_image 9 = .ok (.bipush (-2), 2) := by decide +kernel
theorem dX11_image_11 : decode cX11_image 11 = .ok (.invokevirtual 106, 3) := by decide +kernel
theorem dX11_image_14 : decode cX11_image 14 = .ok (.ireturn, 1) := by decide +kernel
set_option maxRecDepth 20000 in
theorem iw_k_x_image_X11 : ∀ w ∈ wsX110, w ∈ wsX11_image := by decide +kernel
set_option maxHeartbeats 4000000 in
set_option maxRecDepth 100000 in
theorem k_x_image (l : Launch) (dC : Nat → ClassId) (dI : Nat → Nat → Nat) (o : Nat) (aw : Nat) (bk : Nat) (ai : Nat) (ak : Nat) (sc : Nat) (rd : Nat) (fo : Nat) (tx : Nat) (ar : Nat) (atr : Nat) (ao : Nat) (ci : ClassId) (i0 : Nat) (i1 : Nat) (ck : ClassId) (cr : ClassId) (rk0 : Nat) (rk1 : Nat) (rk2 : Nat) (rk3 : Nat) (eak : Nat) (cak0 : Nat) (cak1 : Nat) (cak2 : Nat) (cak3 : Nat) (cck0 : ClassId) (cck1 : ClassId) (cck2 : ClassId) (cck3 : ClassId) (rx0 : Nat) (rx1 : Nat) (rx2 : Nat) (rx3 : Nat) (eax : Nat) (cax0 : Nat) (cax1 : Nat) (cax2 : Nat) (cax3 : Nat) (ccx0 : ClassId) (ccx1 : ClassId) (ccx2 : ClassId) (ccx3 : ClassId) (cex : ClassId) (fex : Nat → Option Nat) (ry0 : Nat) (ry1 : Nat) (ry2 : Nat) (ry3 : Nat) (eay : Nat) (cay0 : Nat) (cay1 : Nat) (cay2 : Nat) (cay3 : Nat) (ccy0 : ClassId) (ccy1 : ClassId) (ccy2 : ClassId) (ccy3 : ClassId) (cey : ClassId) (fey : Nat → Option Nat) (na : Int32) (sz : Nat) : Met l yX11_image wsX11_image ({ frames := 3, cells := 0, slots := 0, locals := 83 }) (va_Pc [.ref o, .int na] (fun U => U.heap.size = sz ∧ va_P (dC, dI) vwCl [(o, .inr (11, [.ref aw, .ref bk, .ref ai, .ref ak, .ref sc, .ref rd, .ref fo, .ref tx, .int 0, .ref ar, .ref atr, .ref ao])), (ai, .inl (ci, 2, .inr (.inr (.inr (.inr (tz_w2 i0 i1)))))), (ak, .inl (ck, 2, .inl (fun _ => 0))), (ar, .inl (cr, 3, .inl (fun _ => 0))), (bk, .inr (0, [.ref rk0, .ref rk1, .ref rk2, .ref rk3, .ref eak, .int 0])), (rk0, .inr (6, [.int 1, .int 5, .ref cak0, .int 0])), (rk1, .inr (6, [.int 4, .int 5, .ref cak1, .int 0])), (rk2, .inr (6, [.int 4, .int 8, .ref cak2, .int 0])), (rk3, .inr (6, [.int 4, .int 6, .ref cak3, .int 0])), (cak0, .inl (cck0, 5, .inl (fun _ => 0))), (cak1, .inl (cck1, 20, .inl (fun _ => 0))), (cak2, .inl (cck2, 32, .inl (fun _ => 0))), (cak3, .inl (cck3, 24, .inl (fun _ => 0))), (i0, .inr (0, [.ref rx0, .ref rx1, .ref rx2, .ref rx3, .ref eax, .int 0])), (rx0, .inr (6, [.int 1, .int 5, .ref cax0, .int 0])), (rx1, .inr (6, [.int 4, .int 5, .ref cax1, .int 0])), (rx2, .inr (6, [.int 4, .int 8, .ref cax2, .int 0])), (rx3, .inr (6, [.int 4, .int 6, .ref cax3, .int 0])), (cax0, .inl (ccx0, 5, .inl (fun _ => 0))), (cax1, .inl (ccx1, 20, .inl (fun _ => 0))), (cax2, .inl (ccx2, 32, .inl (fun _ => 0))), (cax3, .inl (ccx3, 24, .inl (fun _ => 0))), (eax, .inl (cex, 8, .inr (.inr (.inr (.inr fex))))), (i1, .inr (0, [.ref ry0, .ref ry1, .ref ry2, .ref ry3, .ref eay, .int 0])), (ry0, .inr (6, [.int 1, .int 5, .ref cay0, .int 0])), (ry1, .inr (6, [.int 4, .int 5, .ref cay1, .int 0])), (ry2, .inr (6, [.int 4, .int 8, .ref cay2, .int 0])), (ry3, .inr (6, [.int 4, .int 6, .ref cay3, .int 0])), (cay0, .inl (ccy0, 5, .inl (fun _ => 0))), (cay1, .inl (ccy1, 20, .inl (fun _ => 0))), (cay2, .inl (ccy2, 32, .inl (fun _ => 0))), (cay3, .inl (ccy3, 24, .inl (fun _ => 0))), (eay, .inl (cey, 8, .inr (.inr (.inr (.inr fey)))))] U.heap ∧ va_K (dC, dI) vwCl [(ci, (.object "ThriceCounted$Bank")), (ck, .boolean), (cr, .int), (cck0, .int), (cck1, .int), (cck2, .int), (cck3, .int), (ccx0, .int), (ccx1, .int), (ccx2, .int), (ccx3, .int), (cex, (.object "ThriceCounted$Rows")), (ccy0, .int), (ccy1, .int), (ccy2, .int), (ccy3, .int), (cey, (.object "ThriceCounted$Rows"))] U ∧ va_D (fun _ => True) [(o, .inr (11, [.ref aw, .ref bk, .ref ai, .ref ak, .ref sc, .ref rd, .ref fo, .ref tx, .int 0, .ref ar, .ref atr, .ref ao])), (ai, .inl (ci, 2, .inr (.inr (.inr (.inr (tz_w2 i0 i1)))))), (ak, .inl (ck, 2, .inl (fun _ => 0))), (ar, .inl (cr, 3, .inl (fun _ => 0))), (bk, .inr (0, [.ref rk0, .ref rk1, .ref rk2, .ref rk3, .ref eak, .int 0])), (rk0, .inr (6, [.int 1, .int 5, .ref cak0, .int 0])), (rk1, .inr (6, [.int 4, .int 5, .ref cak1, .int 0])), (rk2, .inr (6, [.int 4, .int 8, .ref cak2, .int 0])), (rk3, .inr (6, [.int 4, .int 6, .ref cak3, .int 0])), (cak0, .inl (cck0, 5, .inl (fun _ => 0))), (cak1, .inl (cck1, 20, .inl (fun _ => 0))), (cak2, .inl (cck2, 32, .inl (fun _ => 0))), (cak3, .inl (cck3, 24, .inl (fun _ => 0))), (i0, .inr (0, [.ref rx0, .ref rx1, .ref rx2, .ref rx3, .ref eax, .int 0])), (rx0, .inr (6, [.int 1, .int 5, .ref cax0, .int 0])), (rx1, .inr (6, [.int 4, .int 5, .ref cax1, .int 0])), (rx2, .inr (6, [.int 4, .int 8, .ref cax2, .int 0])), (rx3, .inr (6, [.int 4, .int 6, .ref cax3, .int 0])), (cax0, .inl (ccx0, 5, .inl (fun _ => 0))), (cax1, .inl (ccx1, 20, .inl (fun _ => 0))), (cax2, .inl (ccx2, 32, .inl (fun _ => 0))), (cax3, .inl (ccx3, 24, .inl (fun _ => 0))), (eax, .inl (cex, 8, .inr (.inr (.inr (.inr fex))))), (i1, .inr (0, [.ref ry0, .ref ry1, .ref ry2, .ref ry3, .ref eay, .int 0])), (ry0, .inr (6, [.int 1, .int 5, .ref cay0, .int 0])), (ry1, .inr (6, [.int 4, .int 5, .ref cay1, .int 0])), (ry2, .inr (6, [.int 4, .int 8, .ref cay2, .int 0])), (ry3, .inr (6, [.int 4, .int 6, .ref cay3, .int 0])), (cay0, .inl (ccy0, 5, .inl (fun _ => 0))), (cay1, .inl (ccy1, 20, .inl (fun _ => 0))), (cay2, .inl (ccy2, 32, .inl (fun _ => 0))), (cay3, .inl (ccy3, 24, .inl (fun _ => 0))), (eay, .inl (cey, 8, .inr (.inr (.inr (.inr fey)))))])) (va_Qi (fun (r : Int32) (_ : Unit) => r = (if 0 ≤ na ∧ na ≤ 1 then 1 else (-2))) (fun _ _ => True) (va_A [(o, .inr (11, [.ref aw, .ref bk, .ref ai, .ref ak, .ref sc, .ref rd, .ref fo, .ref tx, .int 0, .ref ar, .ref atr, .ref ao])), (ai, .inl (ci, 2, .inr (.inr (.inr (.inr (tz_w2 i0 i1)))))), (ak, .inl (ck, 2, .inl (fun _ => 0))), (ar, .inl (cr, 3, .inl (fun _ => 0))), (bk, .inr (0, [.ref rk0, .ref rk1, .ref rk2, .ref rk3, .ref eak, .int 0])), (rk0, .inr (6, [.int 1, .int 5, .ref cak0, .int 0])), (rk1, .inr (6, [.int 4, .int 5, .ref cak1, .int 0])), (rk2, .inr (6, [.int 4, .int 8, .ref cak2, .int 0])), (rk3, .inr (6, [.int 4, .int 6, .ref cak3, .int 0])), (cak0, .inl (cck0, 5, .inl (fun _ => 0))), (cak1, .inl (cck1, 20, .inl (fun _ => 0))), (cak2, .inl (cck2, 32, .inl (fun _ => 0))), (cak3, .inl (cck3, 24, .inl (fun _ => 0))), (i0, .inr (0, [.ref rx0, .ref rx1, .ref rx2, .ref rx3, .ref eax, .int 0])), (rx0, .inr (6, [.int 1, .int 5, .ref cax0, .int 0])), (rx1, .inr (6, [.int 4, .int 5, .ref cax1, .int 0])), (rx2, .inr (6, [.int 4, .int 8, .ref cax2, .int 0])), (rx3, .inr (6, [.int 4, .int 6, .ref cax3, .int 0])), (cax0, .inl (ccx0, 5, .inl (fun _ => 0))), (cax1, .inl (ccx1, 20, .inl (fun _ => 0))), (cax2, .inl (ccx2, 32, .inl (fun _ => 0))), (cax3, .inl (ccx3, 24, .inl (fun _ => 0))), (eax, .inl (cex, 8, .inr (.inr (.inr (.inr fex))))), (i1, .inr (0, [.ref ry0, .ref ry1, .ref ry2, .ref ry3, .ref eay, .int 0])), (ry0, .inr (6, [.int 1, .int 5, .ref cay0, .int 0])), (ry1, .inr (6, [.int 4, .int 5, .ref cay1, .int 0])), (ry2, .inr (6, [.int 4, .int 8, .ref cay2, .int 0])), (ry3, .inr (6, [.int 4, .int 6, .ref cay3, .int 0])), (cay0, .inl (ccy0, 5, .inl (fun _ => 0))), (cay1, .inl (ccy1, 20, .inl (fun _ => 0))), (cay2, .inl (ccy2, 32, .inl (fun _ => 0))), (cay3, .inl (ccy3, 24, .inl (fun _ => 0))), (eay, .inl (cey, 8, .inr (.inr (.inr (.inr fey)))))] sz)) 0 0 (va_A [(o, .inr (11, [.ref aw, .ref bk, .ref ai, .ref ak, .ref sc, .ref rd, .ref fo, .ref tx, .int 0, .ref ar, .ref atr, .ref ao])), (ai, .inl (ci, 2, .inr (.inr (.inr (.inr (tz_w2 i0 i1)))))), (ak, .inl (ck, 2, .inl (fun _ => 0))), (ar, .inl (cr, 3, .inl (fun _ => 0))), (bk, .inr (0, [.ref rk0, .ref rk1, .ref rk2, .ref rk3, .ref eak, .int 0])), (rk0, .inr (6, [.int 1, .int 5, .ref cak0, .int 0])), (rk1, .inr (6, [.int 4, .int 5, .ref cak1, .int 0])), (rk2, .inr (6, [.int 4, .int 8, .ref cak2, .int 0])), (rk3, .inr (6, [.int 4, .int 6, .ref cak3, .int 0])), (cak0, .inl (cck0, 5, .inl (fun _ => 0))), (cak1, .inl (cck1, 20, .inl (fun _ => 0))), (cak2, .inl (cck2, 32, .inl (fun _ => 0))), (cak3, .inl (cck3, 24, .inl (fun _ => 0))), (i0, .inr (0, [.ref rx0, .ref rx1, .ref rx2, .ref rx3, .ref eax, .int 0])), (rx0, .inr (6, [.int 1, .int 5, .ref cax0, .int 0])), (rx1, .inr (6, [.int 4, .int 5, .ref cax1, .int 0])), (rx2, .inr (6, [.int 4, .int 8, .ref cax2, .int 0])), (rx3, .inr (6, [.int 4, .int 6, .ref cax3, .int 0])), (cax0, .inl (ccx0, 5, .inl (fun _ => 0))), (cax1, .inl (ccx1, 20, .inl (fun _ => 0))), (cax2, .inl (ccx2, 32, .inl (fun _ => 0))), (cax3, .inl (ccx3, 24, .inl (fun _ => 0))), (eax, .inl (cex, 8, .inr (.inr (.inr (.inr fex))))), (i1, .inr (0, [.ref ry0, .ref ry1, .ref ry2, .ref ry3, .ref eay, .int 0])), (ry0, .inr (6, [.int 1, .int 5, .ref cay0, .int 0])), (ry1, .inr (6, [.int 4, .int 5, .ref cay1, .int 0])), (ry2, .inr (6, [.int 4, .int 8, .ref cay2, .int 0])), (ry3, .inr (6, [.int 4, .int 6, .ref cay3, .int 0])), (cay0, .inl (ccy0, 5, .inl (fun _ => 0))), (cay1, .inl (ccy1, 20, .inl (fun _ => 0))), (cay2, .inl (ccy2, 32, .inl (fun _ => 0))), (cay3, .inl (ccy3, 24, .inl (fun _ => 0))), (eay, .inl (cey, 8, .inr (.inr (.inr (.inr fey)))))] sz) := by
  refine Met.ofW (cc := cX11_image) (maxL := 2) (ret := (some .int)) (by decide) rfl ?_
  intro p e s m args below meth c s₁ B hml hv
  obtain ⟨rfl, hsz, hP, hK, hD0⟩ := hv
  have hx := B.exec
  have hb := B.bytes
  have hr := B.returns
  have hts := atoms_spec (ws := wsX11_image) B.pre
  have hown : s.vm.findClass RX11 = some m.cls := findClass_of_methodNamed B.named
  have hlocks := B.notSynchronized
  subst hsz
  have hD := hD0.self (sz := s.heap.size)
  generalize hAe : va_A [(o, .inr (11, [.ref aw, .ref bk, .ref ai, .ref ak, .ref sc, .ref rd, .ref fo, .ref tx, .int 0, .ref ar, .ref atr, .ref ao])), (ai, .inl (ci, 2, .inr (.inr (.inr (.inr (tz_w2 i0 i1)))))), (ak, .inl (ck, 2, .inl (fun _ => 0))), (ar, .inl (cr, 3, .inl (fun _ => 0))), (bk, .inr (0, [.ref rk0, .ref rk1, .ref rk2, .ref rk3, .ref eak, .int 0])), (rk0, .inr (6, [.int 1, .int 5, .ref cak0, .int 0])), (rk1, .inr (6, [.int 4, .int 5, .ref cak1, .int 0])), (rk2, .inr (6, [.int 4, .int 8, .ref cak2, .int 0])), (rk3, .inr (6, [.int 4, .int 6, .ref cak3, .int 0])), (cak0, .inl (cck0, 5, .inl (fun _ => 0))), (cak1, .inl (cck1, 20, .inl (fun _ => 0))), (cak2, .inl (cck2, 32, .inl (fun _ => 0))), (cak3, .inl (cck3, 24, .inl (fun _ => 0))), (i0, .inr (0, [.ref rx0, .ref rx1, .ref rx2, .ref rx3, .ref eax, .int 0])), (rx0, .inr (6, [.int 1, .int 5, .ref cax0, .int 0])), (rx1, .inr (6, [.int 4, .int 5, .ref cax1, .int 0])), (rx2, .inr (6, [.int 4, .int 8, .ref cax2, .int 0])), (rx3, .inr (6, [.int 4, .int 6, .ref cax3, .int 0])), (cax0, .inl (ccx0, 5, .inl (fun _ => 0))), (cax1, .inl (ccx1, 20, .inl (fun _ => 0))), (cax2, .inl (ccx2, 32, .inl (fun _ => 0))), (cax3, .inl (ccx3, 24, .inl (fun _ => 0))), (eax, .inl (cex, 8, .inr (.inr (.inr (.inr fex))))), (i1, .inr (0, [.ref ry0, .ref ry1, .ref ry2, .ref ry3, .ref eay, .int 0])), (ry0, .inr (6, [.int 1, .int 5, .ref cay0, .int 0])), (ry1, .inr (6, [.int 4, .int 5, .ref cay1, .int 0])), (ry2, .inr (6, [.int 4, .int 8, .ref cay2, .int 0])), (ry3, .inr (6, [.int 4, .int 6, .ref cay3, .int 0])), (cay0, .inl (ccy0, 5, .inl (fun _ => 0))), (cay1, .inl (ccy1, 20, .inl (fun _ => 0))), (cay2, .inl (ccy2, 32, .inl (fun _ => 0))), (cay3, .inl (ccy3, 24, .inl (fun _ => 0))), (eay, .inl (cey, 8, .inr (.inr (.inr (.inr fey)))))] s.heap.size = A at hD ⊢
  have hA : ∀ q : Nat, s.heap.size ≤ q → A q := fun q h => by rw [← hAe]; exact Or.inr h
  have hS : va_S A s.heap s.heap [] := va_S.rf
  have hP : va_P (dC, dI) vwCl [(o, .inr (11, [.ref aw, .ref bk, .ref ai, .ref ak, .ref sc, .ref rd, .ref fo, .ref tx, .int 0, .ref ar, .ref atr, .ref ao])), (ai, .inl (ci, 2, .inr (.inr (.inr (.inr (tz_w2 i0 i1)))))), (ak, .inl (ck, 2, .inl (fun _ => 0))), (ar, .inl (cr, 3, .inl (fun _ => 0))), (bk, .inr (0, [.ref rk0, .ref rk1, .ref rk2, .ref rk3, .ref eak, .int 0])), (rk0, .inr (6, [.int 1, .int 5, .ref cak0, .int 0])), (rk1, .inr (6, [.int 4, .int 5, .ref cak1, .int 0])), (rk2, .inr (6, [.int 4, .int 8, .ref cak2, .int 0])), (rk3, .inr (6, [.int 4, .int 6, .ref cak3, .int 0])), (cak0, .inl (cck0, 5, .inl (fun _ => 0))), (cak1, .inl (cck1, 20, .inl (fun _ => 0))), (cak2, .inl (cck2, 32, .inl (fun _ => 0))), (cak3, .inl (cck3, 24, .inl (fun _ => 0))), (i0, .inr (0, [.ref rx0, .ref rx1, .ref rx2, .ref rx3, .ref eax, .int 0])), (rx0, .inr (6, [.int 1, .int 5, .ref cax0, .int 0])), (rx1, .inr (6, [.int 4, .int 5, .ref cax1, .int 0])), (rx2, .inr (6, [.int 4, .int 8, .ref cax2, .int 0])), (rx3, .inr (6, [.int 4, .int 6, .ref cax3, .int 0])), (cax0, .inl (ccx0, 5, .inl (fun _ => 0))), (cax1, .inl (ccx1, 20, .inl (fun _ => 0))), (cax2, .inl (ccx2, 32, .inl (fun _ => 0))), (cax3, .inl (ccx3, 24, .inl (fun _ => 0))), (eax, .inl (cex, 8, .inr (.inr (.inr (.inr fex))))), (i1, .inr (0, [.ref ry0, .ref ry1, .ref ry2, .ref ry3, .ref eay, .int 0])), (ry0, .inr (6, [.int 1, .int 5, .ref cay0, .int 0])), (ry1, .inr (6, [.int 4, .int 5, .ref cay1, .int 0])), (ry2, .inr (6, [.int 4, .int 8, .ref cay2, .int 0])), (ry3, .inr (6, [.int 4, .int 6, .ref cay3, .int 0])), (cay0, .inl (ccy0, 5, .inl (fun _ => 0))), (cay1, .inl (ccy1, 20, .inl (fun _ => 0))), (cay2, .inl (ccy2, 32, .inl (fun _ => 0))), (cay3, .inl (ccy3, 24, .inl (fun _ => 0))), (eay, .inl (cey, 8, .inr (.inr (.inr (.inr fey)))))] s.heap := hP
  have hl := lv_entry ([.ref o, .int na]) (n := 2) (Nat.le_of_ble_eq_true rfl)
  rw [lg_entry_eq]
  generalize (lg_sl ([.ref o, .int na]) ++ List.replicate (2 - (lg_sl ([.ref o, .int na])).length) Slot.unset).toArray = ls at hl ⊢
  have hl : lv_has ls 2 [(0, .ref o), (1, .int na)] := hl
  refine lv_aload_n hx hb dX11_image_0 rfl (lv_at hl 0 rfl) ?_
  refine lv_iload_n hx hb dX11_image_1 rfl (lv_at hl 1 rfl) ?_
  have hPc_1 := hP.sub (ws' := [(o, .inr (11, [.ref aw, .ref bk, .ref ai, .ref ak, .ref sc, .ref rd, .ref fo, .ref tx, .int 0, .ref ar, .ref atr, .ref ao])), (ai, .inl (ci, 2, .inr (.inr (.inr (.inr (tz_w2 i0 i1)))))), (ak, .inl (ck, 2, .inl (fun _ => 0)))]) [0, 1, 2] rfl
  have hKc_2 := hK.sub (tys' := [(ci, (.object "ThriceCounted$Bank")), (ck, .boolean)]) [0, 1] rfl
  refine vp_callSi (va_Run.run (va_runV (As := [.int na]) (rest := []) ⟨hx, hb, hml, hown, hts⟩ (k_isImage l dC dI o (.ref aw) (.ref bk) ai ak (.ref sc) (.ref rd) (.ref fo) (.ref tx) (.int 0) (.ref ar) (.ref atr) (.ref ao) ci i0 i1 ck na) (cwV 1 hts gX11_image_X11_isImage rfl rfl rfl (by decide +kernel) ⟨Nat.le_of_ble_eq_true rfl, Nat.le_of_ble_eq_true rfl⟩) ⟨fun a U g mk q => by obtain ⟨q0, qP, qK⟩ := q; exact ⟨q0, qP, va_K.moved (u := U) (U := U.calling g mk a) (Vm.Alike.refl U.vm) qK⟩, va_recv hK hP (ci := 11) (q0 := 0) rfl rfl, fun U hU hW => ⟨rfl, by rw [hU]; exact hPc_1, va_K.moved hW.alike hKc_2⟩⟩ rfl rfl hl.1 rfl (lv_room (Nat.le_of_ble_eq_true rfl)) dX11_image_2 ⟨Nat.le_of_ble_eq_true rfl, Nat.le_of_ble_eq_true rfl⟩)) (fun r_3 hw_4 => ?_)
  by_cases hc_5 : 0 ≤ na ∧ na ≤ 1
  · obtain rfl : 1 = r_3 := (hw_4.trans (if_pos hc_5)).symm
    refine lv_if_ne (tgt := 15) hx hb dX11_image_5 (by decide) (fun c_6 => ?_) (fun c_6 => ?_)
    · rcases (tz_two hc_5) with rfl | rfl
      · refine lv_aload_n hx hb dX11_image_15 rfl (lv_at hl 0 rfl) ?_
        refine va_get (D := (dC, dI)) (ci := 11) (v := .ref ai) (C := RX11) (T := TX11) (N := 12) hx hb hts iw_k_x_image_X11 hown hK hP 0 rfl rfl 2 (by decide) (hts (.fieldLink RX11 38 "ThriceCounted" "images" "[LThriceCounted$Bank;") (by decide +kernel)) (fun _ h9 => h9) rfl dX11_image_16 ?_
        refine lv_iload_n hx hb dX11_image_19 rfl (lv_at hl 1 rfl) ?_
        refine va_aldq hx hb hK hP 1 0 rfl rfl (show ¬ ((0 : Int32) < 0 ∨ 2 ≤ (0 : Int32).toNatClampNeg) by decide) dX11_image_20 ?_
        refine tz_v (.ref i0) rfl ?_
        refine lv_aload_n hx hb dX11_image_21 rfl (lv_at hl 0 rfl) ?_
        refine va_get (D := (dC, dI)) (ci := 11) (v := .ref bk) (C := RX11) (T := TX11) (N := 12) hx hb hts iw_k_x_image_X11 hown hK hP 0 rfl rfl 1 (by decide) (hts (.fieldLink RX11 34 "ThriceCounted" "bank" "LThriceCounted$Bank;") (by decide +kernel)) (fun _ h9 => h9) rfl dX11_image_22 ?_
        have hPc := hP.sub (ws' := [(i0, .inr (0, [.ref rx0, .ref rx1, .ref rx2, .ref rx3, .ref eax, .int 0])), (bk, .inr (0, [.ref rk0, .ref rk1, .ref rk2, .ref rk3, .ref eak, .int 0])), (eax, .inl (cex, 8, .inr (.inr (.inr (.inr fex))))), (rx0, .inr (6, [.int 1, .int 5, .ref cax0, .int 0])), (rk0, .inr (6, [.int 1, .int 5, .ref cak0, .int 0])), (cax0, .inl (ccx0, 5, .inl (fun _ => 0))), (cak0, .inl (cck0, 5, .inl (fun _ => 0))), (rx1, .inr (6, [.int 4, .int 5, .ref cax1, .int 0])), (rk1, .inr (6, [.int 4, .int 5, .ref cak1, .int 0])), (cax1, .inl (ccx1, 20, .inl (fun _ => 0))), (cak1, .inl (cck1, 20, .inl (fun _ => 0))), (rx2, .inr (6, [.int 4, .int 8, .ref cax2, .int 0])), (rk2, .inr (6, [.int 4, .int 8, .ref cak2, .int 0])), (cax2, .inl (ccx2, 32, .inl (fun _ => 0))), (cak2, .inl (cck2, 32, .inl (fun _ => 0))), (rx3, .inr (6, [.int 4, .int 6, .ref cax3, .int 0])), (rk3, .inr (6, [.int 4, .int 6, .ref cak3, .int 0])), (cax3, .inl (ccx3, 24, .inl (fun _ => 0))), (cak3, .inl (cck3, 24, .inl (fun _ => 0)))]) [13, 4, 22, 14, 5, 18, 9, 15, 6, 19, 10, 16, 7, 20, 11, 17, 8, 21, 12] rfl
        have hDc := hD.sub (ws' := [(i0, .inr (0, [.ref rx0, .ref rx1, .ref rx2, .ref rx3, .ref eax, .int 0])), (bk, .inr (0, [.ref rk0, .ref rk1, .ref rk2, .ref rk3, .ref eak, .int 0])), (eax, .inl (cex, 8, .inr (.inr (.inr (.inr fex))))), (rx0, .inr (6, [.int 1, .int 5, .ref cax0, .int 0])), (rk0, .inr (6, [.int 1, .int 5, .ref cak0, .int 0])), (cax0, .inl (ccx0, 5, .inl (fun _ => 0))), (cak0, .inl (cck0, 5, .inl (fun _ => 0))), (rx1, .inr (6, [.int 4, .int 5, .ref cax1, .int 0])), (rk1, .inr (6, [.int 4, .int 5, .ref cak1, .int 0])), (cax1, .inl (ccx1, 20, .inl (fun _ => 0))), (cak1, .inl (cck1, 20, .inl (fun _ => 0))), (rx2, .inr (6, [.int 4, .int 8, .ref cax2, .int 0])), (rk2, .inr (6, [.int 4, .int 8, .ref cak2, .int 0])), (cax2, .inl (ccx2, 32, .inl (fun _ => 0))), (cak2, .inl (cck2, 32, .inl (fun _ => 0))), (rx3, .inr (6, [.int 4, .int 6, .ref cax3, .int 0])), (rk3, .inr (6, [.int 4, .int 6, .ref cak3, .int 0])), (cax3, .inl (ccx3, 24, .inl (fun _ => 0))), (cak3, .inl (cck3, 24, .inl (fun _ => 0)))]) [13, 4, 22, 14, 5, 18, 9, 15, 6, 19, 10, 16, 7, 20, 11, 17, 8, 21, 12] (by decide) rfl
        have hKc := hK.sub (tys' := [(cex, (.object "ThriceCounted$Rows")), (ccx0, .int), (cck0, .int), (ccx1, .int), (cck1, .int), (ccx2, .int), (cck2, .int), (ccx3, .int), (cck3, .int)]) [11, 7, 3, 8, 4, 9, 5, 10, 6] rfl
        have hFc := va_free (wc := [(i0, .inr (0, [.ref rx0, .ref rx1, .ref rx2, .ref rx3, .ref eax, .int 0])), (bk, .inr (0, [.ref rk0, .ref rk1, .ref rk2, .ref rk3, .ref eak, .int 0])), (eax, .inl (cex, 8, .inr (.inr (.inr (.inr fex))))), (rx0, .inr (6, [.int 1, .int 5, .ref cax0, .int 0])), (rk0, .inr (6, [.int 1, .int 5, .ref cak0, .int 0])), (cax0, .inl (ccx0, 5, .inl (fun _ => 0))), (cak0, .inl (cck0, 5, .inl (fun _ => 0))), (rx1, .inr (6, [.int 4, .int 5, .ref cax1, .int 0])), (rk1, .inr (6, [.int 4, .int 5, .ref cak1, .int 0])), (cax1, .inl (ccx1, 20, .inl (fun _ => 0))), (cak1, .inl (cck1, 20, .inl (fun _ => 0))), (rx2, .inr (6, [.int 4, .int 8, .ref cax2, .int 0])), (rk2, .inr (6, [.int 4, .int 8, .ref cak2, .int 0])), (cax2, .inl (ccx2, 32, .inl (fun _ => 0))), (cak2, .inl (cck2, 32, .inl (fun _ => 0))), (rx3, .inr (6, [.int 4, .int 6, .ref cax3, .int 0])), (rk3, .inr (6, [.int 4, .int 6, .ref cak3, .int 0])), (cax3, .inl (ccx3, 24, .inl (fun _ => 0))), (cak3, .inl (cck3, 24, .inl (fun _ => 0)))]) hD hS hA [13, 4, 22, 14, 5, 18, 9, 15, 6, 19, 10, 16, 7, 20, 11, 17, 8, 21, 12] rfl
        refine va_callv (va_runV (As := [.ref bk]) (rest := []) ⟨hx, hb, hml, hown, hts⟩ (k_bcopy l dC dI i0 rx0 rx1 rx2 rx3 eax (.int 0) bk rk0 rk1 rk2 rk3 (.ref eak) cex fex (.int 1) cax0 (.int 0) (.int 1) (.int 5) cak0 ccx0 (fun _ => 0) cck0 (fun _ => 0) (.int 4) cax1 (.int 0) (.int 4) (.int 5) cak1 ccx1 (fun _ => 0) cck1 (fun _ => 0) (.int 4) cax2 (.int 0) (.int 4) (.int 8) cak2 ccx2 (fun _ => 0) cck2 (fun _ => 0) (.int 4) cax3 (.int 0) (.int 4) (.int 6) cak3 ccx3 (fun _ => 0) cck3 (fun _ => 0) s.heap.size) (cwV 1 hts gX11_image_X0_copyFrom rfl rfl rfl (by decide +kernel) ⟨Nat.le_of_ble_eq_true rfl, Nat.le_of_ble_eq_true rfl⟩) ⟨fun a U g mk q => by obtain ⟨q0, q1, qP, qK, qD⟩ := q; exact ⟨q0, q1, qP, va_K.moved (u := U) (U := U.calling g mk a) (Vm.Alike.refl U.vm) qK, qD⟩, va_recv hK hP (ci := 0) (q0 := 13) rfl rfl, fun U hU hW => ⟨rfl, by rw [hU], by rw [hU]; exact hPc, va_K.moved hW.alike hKc, hDc.weaken (fun _ _ _ _ => trivial)⟩⟩ rfl rfl hl.1 rfl (lv_room (Nat.le_of_ble_eq_true rfl)) dX11_image_25 ⟨Nat.le_of_ble_eq_true rfl, Nat.le_of_ble_eq_true rfl⟩) hS (fun q _ h => hFc q h) hFc (fun u_ t H1 locs ht hvm hw_8 hB hz1 hk1 hS => ?_)
        obtain ⟨hP, hD⟩ := va_join (wr := [(o, .inr (11, [.ref aw, .ref bk, .ref ai, .ref ak, .ref sc, .ref rd, .ref fo, .ref tx, .int 0, .ref ar, .ref atr, .ref ao])), (ai, .inl (ci, 2, .inr (.inr (.inr (.inr (tz_w2 i0 i1)))))), (ak, .inl (ck, 2, .inl (fun _ => 0))), (ar, .inl (cr, 3, .inl (fun _ => 0))), (i1, .inr (0, [.ref ry0, .ref ry1, .ref ry2, .ref ry3, .ref eay, .int 0])), (ry0, .inr (6, [.int 1, .int 5, .ref cay0, .int 0])), (ry1, .inr (6, [.int 4, .int 5, .ref cay1, .int 0])), (ry2, .inr (6, [.int 4, .int 8, .ref cay2, .int 0])), (ry3, .inr (6, [.int 4, .int 6, .ref cay3, .int 0])), (cay0, .inl (ccy0, 5, .inl (fun _ => 0))), (cay1, .inl (ccy1, 20, .inl (fun _ => 0))), (cay2, .inl (ccy2, 32, .inl (fun _ => 0))), (cay3, .inl (ccy3, 24, .inl (fun _ => 0))), (eay, .inl (cey, 8, .inr (.inr (.inr (.inr fey)))))]) (w1 := []) hP hD [13, 4, 22, 14, 5, 18, 9, 15, 6, 19, 10, 16, 7, 20, 11, 17, 8, 21, 12] [0, 1, 2, 3, 23, 24, 25, 26, 27, 28, 29, 30, 31, 32] rfl rfl (by decide) (by decide) hk1 hFc tz_P0 tz_D0
        generalize H1 = H at hP hS ⊢
        have hP : va_P (dC, dI) vwCl [(o, .inr (11, [.ref aw, .ref bk, .ref ai, .ref ak, .ref sc, .ref rd, .ref fo, .ref tx, .int 0, .ref ar, .ref atr, .ref ao])), (ai, .inl (ci, 2, .inr (.inr (.inr (.inr (tz_w2 i0 i1)))))), (ak, .inl (ck, 2, .inl (fun _ => 0))), (ar, .inl (cr, 3, .inl (fun _ => 0))), (i1, .inr (0, [.ref ry0, .ref ry1, .ref ry2, .ref ry3, .ref eay, .int 0])), (ry0, .inr (6, [.int 1, .int 5, .ref cay0, .int 0])), (ry1, .inr (6, [.int 4, .int 5, .ref cay1, .int 0])), (ry2, .inr (6, [.int 4, .int 8, .ref cay2, .int 0])), (ry3, .inr (6, [.int 4, .int 6, .ref cay3, .int 0])), (cay0, .inl (ccy0, 5, .inl (fun _ => 0))), (cay1, .inl (ccy1, 20, .inl (fun _ => 0))), (cay2, .inl (ccy2, 32, .inl (fun _ => 0))), (cay3, .inl (ccy3, 24, .inl (fun _ => 0))), (eay, .inl (cey, 8, .inr (.inr (.inr (.inr fey)))))] H := hP
        have hD : va_D A [(o, .inr (11, [.ref aw, .ref bk, .ref ai, .ref ak, .ref sc, .ref rd, .ref fo, .ref tx, .int 0, .ref ar, .ref atr, .ref ao])), (ai, .inl (ci, 2, .inr (.inr (.inr (.inr (tz_w2 i0 i1)))))), (ak, .inl (ck, 2, .inl (fun _ => 0))), (ar, .inl (cr, 3, .inl (fun _ => 0))), (i1, .inr (0, [.ref ry0, .ref ry1, .ref ry2, .ref ry3, .ref eay, .int 0])), (ry0, .inr (6, [.int 1, .int 5, .ref cay0, .int 0])), (ry1, .inr (6, [.int 4, .int 5, .ref cay1, .int 0])), (ry2, .inr (6, [.int 4, .int 8, .ref cay2, .int 0])), (ry3, .inr (6, [.int 4, .int 6, .ref cay3, .int 0])), (cay0, .inl (ccy0, 5, .inl (fun _ => 0))), (cay1, .inl (ccy1, 20, .inl (fun _ => 0))), (cay2, .inl (ccy2, 32, .inl (fun _ => 0))), (cay3, .inl (ccy3, 24, .inl (fun _ => 0))), (eay, .inl (cey, 8, .inr (.inr (.inr (.inr fey)))))] := hD
        refine lv_aload_n hx hb dX11_image_28 rfl (lv_at hl 0 rfl) ?_
        refine va_get (D := (dC, dI)) (ci := 11) (v := .ref ak) (C := RX11) (T := TX11) (N := 12) hx hb hts iw_k_x_image_X11 hown hK hP 0 rfl rfl 3 (by decide) (hts (.fieldLink RX11 42 "ThriceCounted" "kept" "[Z") (by decide +kernel)) (fun _ h9 => h9) rfl dX11_image_29 ?_
        refine lv_iload_n hx hb dX11_image_32 rfl (lv_at hl 1 rfl) ?_
        refine lv_iconst (v := 1) hx hb dX11_image_33 (by decide) ?_
        refine va_zast hx hb hK hP hD hS 2 1 rfl rfl (show ¬ ((0 : Int32) < 0 ∨ 2 ≤ (0 : Int32).toNatClampNeg) by decide) dX11_image_34 (fun H locs hP hD hS => ?_)
        generalize (upd (fun _ => 0) (Int32.toNatClampNeg 0) (vp_nar .boolean 1)) = f_9 at hP hD
        have hP : va_P (dC, dI) vwCl [(o, .inr (11, [.ref aw, .ref bk, .ref ai, .ref ak, .ref sc, .ref rd, .ref fo, .ref tx, .int 0, .ref ar, .ref atr, .ref ao])), (ai, .inl (ci, 2, .inr (.inr (.inr (.inr (tz_w2 i0 i1)))))), (ak, .inl (ck, 2, .inl f_9)), (ar, .inl (cr, 3, .inl (fun _ => 0))), (i1, .inr (0, [.ref ry0, .ref ry1, .ref ry2, .ref ry3, .ref eay, .int 0])), (ry0, .inr (6, [.int 1, .int 5, .ref cay0, .int 0])), (ry1, .inr (6, [.int 4, .int 5, .ref cay1, .int 0])), (ry2, .inr (6, [.int 4, .int 8, .ref cay2, .int 0])), (ry3, .inr (6, [.int 4, .int 6, .ref cay3, .int 0])), (cay0, .inl (ccy0, 5, .inl (fun _ => 0))), (cay1, .inl (ccy1, 20, .inl (fun _ => 0))), (cay2, .inl (ccy2, 32, .inl (fun _ => 0))), (cay3, .inl (ccy3, 24, .inl (fun _ => 0))), (eay, .inl (cey, 8, .inr (.inr (.inr (.inr fey)))))] H := hP
        have hD : va_D A [(o, .inr (11, [.ref aw, .ref bk, .ref ai, .ref ak, .ref sc, .ref rd, .ref fo, .ref tx, .int 0, .ref ar, .ref atr, .ref ao])), (ai, .inl (ci, 2, .inr (.inr (.inr (.inr (tz_w2 i0 i1)))))), (ak, .inl (ck, 2, .inl f_9)), (ar, .inl (cr, 3, .inl (fun _ => 0))), (i1, .inr (0, [.ref ry0, .ref ry1, .ref ry2, .ref ry3, .ref eay, .int 0])), (ry0, .inr (6, [.int 1, .int 5, .ref cay0, .int 0])), (ry1, .inr (6, [.int 4, .int 5, .ref cay1, .int 0])), (ry2, .inr (6, [.int 4, .int 8, .ref cay2, .int 0])), (ry3, .inr (6, [.int 4, .int 6, .ref cay3, .int 0])), (cay0, .inl (ccy0, 5, .inl (fun _ => 0))), (cay1, .inl (ccy1, 20, .inl (fun _ => 0))), (cay2, .inl (ccy2, 32, .inl (fun _ => 0))), (cay3, .inl (ccy3, 24, .inl (fun _ => 0))), (eay, .inl (cey, 8, .inr (.inr (.inr (.inr fey)))))] := hD
        refine lv_iconst (v := 1) hx hb dX11_image_35 (by decide) ?_
        exact W.iret (v := 1) hx hb hr (fun t ht hW => ⟨⟨1, (), rfl, (if_pos hc_5).symm, trivial⟩, hS.F ht⟩) hS.2.2 dX11_image_36
      · refine lv_aload_n hx hb dX11_image_15 rfl (lv_at hl 0 rfl) ?_
        refine va_get (D := (dC, dI)) (ci := 11) (v := .ref ai) (C := RX11) (T := TX11) (N := 12) hx hb hts iw_k_x_image_X11 hown hK hP 0 rfl rfl 2 (by decide) (hts (.fieldLink RX11 38 "ThriceCounted" "images" "[LThriceCounted$Bank;") (by decide +kernel)) (fun _ h9 => h9) rfl dX11_image_16 ?_
        refine lv_iload_n hx hb dX11_image_19 rfl (lv_at hl 1 rfl) ?_
        refine va_aldq hx hb hK hP 1 0 rfl rfl (show ¬ ((1 : Int32) < 0 ∨ 2 ≤ (1 : Int32).toNatClampNeg) by decide) dX11_image_20 ?_
        refine tz_v (.ref i1) rfl ?_
        refine lv_aload_n hx hb dX11_image_21 rfl (lv_at hl 0 rfl) ?_
        refine va_get (D := (dC, dI)) (ci := 11) (v := .ref bk) (C := RX11) (T := TX11) (N := 12) hx hb hts iw_k_x_image_X11 hown hK hP 0 rfl rfl 1 (by decide) (hts (.fieldLink RX11 34 "ThriceCounted" "bank" "LThriceCounted$Bank;") (by decide +kernel)) (fun _ h9 => h9) rfl dX11_image_22 ?_
        have hPc := hP.sub (ws' := [(i1, .inr (0, [.ref ry0, .ref ry1, .ref ry2, .ref ry3, .ref eay, .int 0])), (bk, .inr (0, [.ref rk0, .ref rk1, .ref rk2, .ref rk3, .ref eak, .int 0])), (eay, .inl (cey, 8, .inr (.inr (.inr (.inr fey))))), (ry0, .inr (6, [.int 1, .int 5, .ref cay0, .int 0])), (rk0, .inr (6, [.int 1, .int 5, .ref cak0, .int 0])), (cay0, .inl (ccy0, 5, .inl (fun _ => 0))), (cak0, .inl (cck0, 5, .inl (fun _ => 0))), (ry1, .inr (6, [.int 4, .int 5, .ref cay1, .int 0])), (rk1, .inr (6, [.int 4, .int 5, .ref cak1, .int 0])), (cay1, .inl (ccy1, 20, .inl (fun _ => 0))), (cak1, .inl (cck1, 20, .inl (fun _ => 0))), (ry2, .inr (6, [.int 4, .int 8, .ref cay2, .int 0])), (rk2, .inr (6, [.int 4, .int 8, .ref cak2, .int 0])), (cay2, .inl (ccy2, 32, .inl (fun _ => 0))), (cak2, .inl (cck2, 32, .inl (fun _ => 0))), (ry3, .inr (6, [.int 4, .int 6, .ref cay3, .int 0])), (rk3, .inr (6, [.int 4, .int 6, .ref cak3, .int 0])), (cay3, .inl (ccy3, 24, .inl (fun _ => 0))), (cak3, .inl (cck3, 24, .inl (fun _ => 0)))]) [23, 4, 32, 24, 5, 28, 9, 25, 6, 29, 10, 26, 7, 30, 11, 27, 8, 31, 12] rfl
        have hDc := hD.sub (ws' := [(i1, .inr (0, [.ref ry0, .ref ry1, .ref ry2, .ref ry3, .ref eay, .int 0])), (bk, .inr (0, [.ref rk0, .ref rk1, .ref rk2, .ref rk3, .ref eak, .int 0])), (eay, .inl (cey, 8, .inr (.inr (.inr (.inr fey))))), (ry0, .inr (6, [.int 1, .int 5, .ref cay0, .int 0])), (rk0, .inr (6, [.int 1, .int 5, .ref cak0, .int 0])), (cay0, .inl (ccy0, 5, .inl (fun _ => 0))), (cak0, .inl (cck0, 5, .inl (fun _ => 0))), (ry1, .inr (6, [.int 4, .int 5, .ref cay1, .int 0])), (rk1, .inr (6, [.int 4, .int 5, .ref cak1, .int 0])), (cay1, .inl (ccy1, 20, .inl (fun _ => 0))), (cak1, .inl (cck1, 20, .inl (fun _ => 0))), (ry2, .inr (6, [.int 4, .int 8, .ref cay2, .int 0])), (rk2, .inr (6, [.int 4, .int 8, .ref cak2, .int 0])), (cay2, .inl (ccy2, 32, .inl (fun _ => 0))), (cak2, .inl (cck2, 32, .inl (fun _ => 0))), (ry3, .inr (6, [.int 4, .int 6, .ref cay3, .int 0])), (rk3, .inr (6, [.int 4, .int 6, .ref cak3, .int 0])), (cay3, .inl (ccy3, 24, .inl (fun _ => 0))), (cak3, .inl (cck3, 24, .inl (fun _ => 0)))]) [23, 4, 32, 24, 5, 28, 9, 25, 6, 29, 10, 26, 7, 30, 11, 27, 8, 31, 12] (by decide) rfl
        have hKc := hK.sub (tys' := [(cey, (.object "ThriceCounted$Rows")), (ccy0, .int), (cck0, .int), (ccy1, .int), (cck1, .int), (ccy2, .int), (cck2, .int), (ccy3, .int), (cck3, .int)]) [16, 12, 3, 13, 4, 14, 5, 15, 6] rfl
        have hFc := va_free (wc := [(i1, .inr (0, [.ref ry0, .ref ry1, .ref ry2, .ref ry3, .ref eay, .int 0])), (bk, .inr (0, [.ref rk0, .ref rk1, .ref rk2, .ref rk3, .ref eak, .int 0])), (eay, .inl (cey, 8, .inr (.inr (.inr (.inr fey))))), (ry0, .inr (6, [.int 1, .int 5, .ref cay0, .int 0])), (rk0, .inr (6, [.int 1, .int 5, .ref cak0, .int 0])), (cay0, .inl (ccy0, 5, .inl (fun _ => 0))), (cak0, .inl (cck0, 5, .inl (fun _ => 0))), (ry1, .inr (6, [.int 4, .int 5, .ref cay1, .int 0])), (rk1, .inr (6, [.int 4, .int 5, .ref cak1, .int 0])), (cay1, .inl (ccy1, 20, .inl (fun _ => 0))), (cak1, .inl (cck1, 20, .inl (fun _ => 0))), (ry2, .inr (6, [.int 4, .int 8, .ref cay2, .int 0])), (rk2, .inr (6, [.int 4, .int 8, .ref cak2, .int 0])), (cay2, .inl (ccy2, 32, .inl (fun _ => 0))), (cak2, .inl (cck2, 32, .inl (fun _ => 0))), (ry3, .inr (6, [.int 4, .int 6, .ref cay3, .int 0])), (rk3, .inr (6, [.int 4, .int 6, .ref cak3, .int 0])), (cay3, .inl (ccy3, 24, .inl (fun _ => 0))), (cak3, .inl (cck3, 24, .inl (fun _ => 0)))]) hD hS hA [23, 4, 32, 24, 5, 28, 9, 25, 6, 29, 10, 26, 7, 30, 11, 27, 8, 31, 12] rfl
        refine va_callv (va_runV (As := [.ref bk]) (rest := []) ⟨hx, hb, hml, hown, hts⟩ (k_bcopy l dC dI i1 ry0 ry1 ry2 ry3 eay (.int 0) bk rk0 rk1 rk2 rk3 (.ref eak) cey fey (.int 1) cay0 (.int 0) (.int 1) (.int 5) cak0 ccy0 (fun _ => 0) cck0 (fun _ => 0) (.int 4) cay1 (.int 0) (.int 4) (.int 5) cak1 ccy1 (fun _ => 0) cck1 (fun _ => 0) (.int 4) cay2 (.int 0) (.int 4) (.int 8) cak2 ccy2 (fun _ => 0) cck2 (fun _ => 0) (.int 4) cay3 (.int 0) (.int 4) (.int 6) cak3 ccy3 (fun _ => 0) cck3 (fun _ => 0) s.heap.size) (cwV 1 hts gX11_image_X0_copyFrom rfl rfl rfl (by decide +kernel) ⟨Nat.le_of_ble_eq_true rfl, Nat.le_of_ble_eq_true rfl⟩) ⟨fun a U g mk q => by obtain ⟨q0, q1, qP, qK, qD⟩ := q; exact ⟨q0, q1, qP, va_K.moved (u := U) (U := U.calling g mk a) (Vm.Alike.refl U.vm) qK, qD⟩, va_recv hK hP (ci := 0) (q0 := 23) rfl rfl, fun U hU hW => ⟨rfl, by rw [hU], by rw [hU]; exact hPc, va_K.moved hW.alike hKc, hDc.weaken (fun _ _ _ _ => trivial)⟩⟩ rfl rfl hl.1 rfl (lv_room (Nat.le_of_ble_eq_true rfl)) dX11_image_25 ⟨Nat.le_of_ble_eq_true rfl, Nat.le_of_ble_eq_true rfl⟩) hS (fun q _ h => hFc q h) hFc (fun u_ t H1 locs ht hvm hw_11 hB hz1 hk1 hS => ?_)
        obtain ⟨hP, hD⟩ := va_join (wr := [(o, .inr (11, [.ref aw, .ref bk, .ref ai, .ref ak, .ref sc, .ref rd, .ref fo, .ref tx, .int 0, .ref ar, .ref atr, .ref ao])), (ai, .inl (ci, 2, .inr (.inr (.inr (.inr (tz_w2 i0 i1)))))), (ak, .inl (ck, 2, .inl (fun _ => 0))), (ar, .inl (cr, 3, .inl (fun _ => 0))), (i0, .inr (0, [.ref rx0, .ref rx1, .ref rx2, .ref rx3, .ref eax, .int 0])), (rx0, .inr (6, [.int 1, .int 5, .ref cax0, .int 0])), (rx1, .inr (6, [.int 4, .int 5, .ref cax1, .int 0])), (rx2, .inr (6, [.int 4, .int 8, .ref cax2, .int 0])), (rx3, .inr (6, [.int 4, .int 6, .ref cax3, .int 0])), (cax0, .inl (ccx0, 5, .inl (fun _ => 0))), (cax1, .inl (ccx1, 20, .inl (fun _ => 0))), (cax2, .inl (ccx2, 32, .inl (fun _ => 0))), (cax3, .inl (ccx3, 24, .inl (fun _ => 0))), (eax, .inl (cex, 8, .inr (.inr (.inr (.inr fex)))))]) (w1 := []) hP hD [23, 4, 32, 24, 5, 28, 9, 25, 6, 29, 10, 26, 7, 30, 11, 27, 8, 31, 12] [0, 1, 2, 3, 13, 14, 15, 16, 17, 18, 19, 20, 21, 22] rfl rfl (by decide) (by decide) hk1 hFc tz_P0 tz_D0
        generalize H1 = H at hP hS ⊢
        have hP : va_P (dC, dI) vwCl [(o, .inr (11, [.ref aw, .ref bk, .ref ai, .ref ak, .ref sc, .ref rd, .ref fo, .ref tx, .int 0, .ref ar, .ref atr, .ref ao])), (ai, .inl (ci, 2, .inr (.inr (.inr (.inr (tz_w2 i0 i1)))))), (ak, .inl (ck, 2, .inl (fun _ => 0))), (ar, .inl (cr, 3, .inl (fun _ => 0))), (i0, .inr (0, [.ref rx0, .ref rx1, .ref rx2, .ref rx3, .ref eax, .int 0])), (rx0, .inr (6, [.int 1, .int 5, .ref cax0, .int 0])), (rx1, .inr (6, [.int 4, .int 5, .ref cax1, .int 0])), (rx2, .inr (6, [.int 4, .int 8, .ref cax2, .int 0])), (rx3, .inr (6, [.int 4, .int 6, .ref cax3, .int 0])), (cax0, .inl (ccx0, 5, .inl (fun _ => 0))), (cax1, .inl (ccx1, 20, .inl (fun _ => 0))), (cax2, .inl (ccx2, 32, .inl (fun _ => 0))), (cax3, .inl (ccx3, 24, .inl (fun _ => 0))), (eax, .inl (cex, 8, .inr (.inr (.inr (.inr fex)))))] H := hP
        have hD : va_D A [(o, .inr (11, [.ref aw, .ref bk, .ref ai, .ref ak, .ref sc, .ref rd, .ref fo, .ref tx, .int 0, .ref ar, .ref atr, .ref ao])), (ai, .inl (ci, 2, .inr (.inr (.inr (.inr (tz_w2 i0 i1)))))), (ak, .inl (ck, 2, .inl (fun _ => 0))), (ar, .inl (cr, 3, .inl (fun _ => 0))), (i0, .inr (0, [.ref rx0, .ref rx1, .ref rx2, .ref rx3, .ref eax, .int 0])), (rx0, .inr (6, [.int 1, .int 5, .ref cax0, .int 0])), (rx1, .inr (6, [.int 4, .int 5, .ref cax1, .int 0])), (rx2, .inr (6, [.int 4, .int 8, .ref cax2, .int 0])), (rx3, .inr (6, [.int 4, .int 6, .ref cax3, .int 0])), (cax0, .inl (ccx0, 5, .inl (fun _ => 0))), (cax1, .inl (ccx1, 20, .inl (fun _ => 0))), (cax2, .inl (ccx2, 32, .inl (fun _ => 0))), (cax3, .inl (ccx3, 24, .inl (fun _ => 0))), (eax, .inl (cex, 8, .inr (.inr (.inr (.inr fex)))))] := hD
        refine lv_aload_n hx hb dX11_image_28 rfl (lv_at hl 0 rfl) ?_
        refine va_get (D := (dC, dI)) (ci := 11) (v := .ref ak) (C := RX11) (T := TX11) (N := 12) hx hb hts iw_k_x_image_X11 hown hK hP 0 rfl rfl 3 (by decide) (hts (.fieldLink RX11 42 "ThriceCounted" "kept" "[Z") (by decide +kernel)) (fun _ h9 => h9) rfl dX11_image_29 ?_
        refine lv_iload_n hx hb dX11_image_32 rfl (lv_at hl 1 rfl) ?_
        refine lv_iconst (v := 1) hx hb dX11_image_33 (by decide) ?_
        refine va_zast hx hb hK hP hD hS 2 1 rfl rfl (show ¬ ((1 : Int32) < 0 ∨ 2 ≤ (1 : Int32).toNatClampNeg) by decide) dX11_image_34 (fun H locs hP hD hS => ?_)
        generalize (upd (fun _ => 0) (Int32.toNatClampNeg 1) (vp_nar .boolean 1)) = f_12 at hP hD
        have hP : va_P (dC, dI) vwCl [(o, .inr (11, [.ref aw, .ref bk, .ref ai, .ref ak, .ref sc, .ref rd, .ref fo, .ref tx, .int 0, .ref ar, .ref atr, .ref ao])), (ai, .inl (ci, 2, .inr (.inr (.inr (.inr (tz_w2 i0 i1)))))), (ak, .inl (ck, 2, .inl f_12)), (ar, .inl (cr, 3, .inl (fun _ => 0))), (i0, .inr (0, [.ref rx0, .ref rx1, .ref rx2, .ref rx3, .ref eax, .int 0])), (rx0, .inr (6, [.int 1, .int 5, .ref cax0, .int 0])), (rx1, .inr (6, [.int 4, .int 5, .ref cax1, .int 0])), (rx2, .inr (6, [.int 4, .int 8, .ref cax2, .int 0])), (rx3, .inr (6, [.int 4, .int 6, .ref cax3, .int 0])), (cax0, .inl (ccx0, 5, .inl (fun _ => 0))), (cax1, .inl (ccx1, 20, .inl (fun _ => 0))), (cax2, .inl (ccx2, 32, .inl (fun _ => 0))), (cax3, .inl (ccx3, 24, .inl (fun _ => 0))), (eax, .inl (cex, 8, .inr (.inr (.inr (.inr fex)))))] H := hP
        have hD : va_D A [(o, .inr (11, [.ref aw, .ref bk, .ref ai, .ref ak, .ref sc, .ref rd, .ref fo, .ref tx, .int 0, .ref ar, .ref atr, .ref ao])), (ai, .inl (ci, 2, .inr (.inr (.inr (.inr (tz_w2 i0 i1)))))), (ak, .inl (ck, 2, .inl f_12)), (ar, .inl (cr, 3, .inl (fun _ => 0))), (i0, .inr (0, [.ref rx0, .ref rx1, .ref rx2, .ref rx3, .ref eax, .int 0])), (rx0, .inr (6, [.int 1, .int 5, .ref cax0, .int 0])), (rx1, .inr (6, [.int 4, .int 5, .ref cax1, .int 0])), (rx2, .inr (6, [.int 4, .int 8, .ref cax2, .int 0])), (rx3, .inr (6, [.int 4, .int 6, .ref cax3, .int 0])), (cax0, .inl (ccx0, 5, .inl (fun _ => 0))), (cax1, .inl (ccx1, 20, .inl (fun _ => 0))), (cax2, .inl (ccx2, 32, .inl (fun _ => 0))), (cax3, .inl (ccx3, 24, .inl (fun _ => 0))), (eax, .inl (cex, 8, .inr (.inr (.inr (.inr fex)))))] := hD
        refine lv_iconst (v := 1) hx hb dX11_image_35 (by decide) ?_
        exact W.iret (v := 1) hx hb hr (fun t ht hW => ⟨⟨1, (), rfl, (if_pos hc_5).symm, trivial⟩, hS.F ht⟩) hS.2.2 dX11_image_36
    · exact absurd c_6 (by decide)
  · obtain rfl : 0 = r_3 := (hw_4.trans (if_neg hc_5)).symm
    refine lv_if_ne (tgt := 15) hx hb dX11_image_5 (by decide) (fun c_13 => ?_) (fun c_13 => ?_)
    · exact absurd c_13 (by decide)
    · refine lv_aload_n hx hb dX11_image_8 rfl (lv_at hl 0 rfl) ?_
      refine lv_bipush (v := (-2)) hx hb dX11_image_9 (by decide) ?_
      have hPc := hP.sub (ws' := [(o, .inr (11, [.ref aw, .ref bk, .ref ai, .ref ak, .ref sc, .ref rd, .ref fo, .ref tx, .int 0, .ref ar, .ref atr, .ref ao])), (ar, .inl (cr, 3, .inl (fun _ => 0)))]) [0, 3] rfl
      have hDc := hD.sub (ws' := [(o, .inr (11, [.ref aw, .ref bk, .ref ai, .ref ak, .ref sc, .ref rd, .ref fo, .ref tx, .int 0, .ref ar, .ref atr, .ref ao])), (ar, .inl (cr, 3, .inl (fun _ => 0)))]) [0, 3] (by decide) rfl
      have hKc := hK.sub (tys' := [(cr, .int)]) [2] rfl
      have hFc := va_free (wc := [(o, .inr (11, [.ref aw, .ref bk, .ref ai, .ref ak, .ref sc, .ref rd, .ref fo, .ref tx, .int 0, .ref ar, .ref atr, .ref ao])), (ar, .inl (cr, 3, .inl (fun _ => 0)))]) hD hS hA [0, 3] rfl
      refine va_calli (va_runV (As := [.int (-2)]) (rest := []) ⟨hx, hb, hml, hown, hts⟩ (k_refuse l dC dI o (.ref aw) (.ref bk) (.ref ai) (.ref ak) (.ref sc) (.ref rd) (.ref fo) (.ref tx) (.int 0) ar (.ref atr) (.ref ao) cr (fun _ => 0) (-2) s.heap.size) (cwV 1 hts gX11_image_X11_refuse rfl rfl rfl (by decide +kernel) ⟨Nat.le_of_ble_eq_true rfl, Nat.le_of_ble_eq_true rfl⟩) ⟨fun a U g mk q => by obtain ⟨q0, q1, qP, qK, qD⟩ := q; exact ⟨q0, q1, qP, va_K.moved (u := U) (U := U.calling g mk a) (Vm.Alike.refl U.vm) qK, qD⟩, va_recv hK hP (ci := 11) (q0 := 0) rfl rfl, fun U hU hW => ⟨rfl, by rw [hU], by rw [hU]; exact hPc, va_K.moved hW.alike hKc, hDc.weaken (fun _ _ _ _ => trivial)⟩⟩ rfl rfl hl.1 rfl (lv_room (Nat.le_of_ble_eq_true rfl)) dX11_image_11 ⟨Nat.le_of_ble_eq_true rfl, Nat.le_of_ble_eq_true rfl⟩) hS (fun q _ h => hFc q h) hFc (fun r_14 u_ t H1 locs ht hvm hw_15 hB hz1 hk1 hS => ?_)
      obtain ⟨hP, hD⟩ := va_join (wr := [(ai, .inl (ci, 2, .inr (.inr (.inr (.inr (tz_w2 i0 i1)))))), (ak, .inl (ck, 2, .inl (fun _ => 0))), (bk, .inr (0, [.ref rk0, .ref rk1, .ref rk2, .ref rk3, .ref eak, .int 0])), (rk0, .inr (6, [.int 1, .int 5, .ref cak0, .int 0])), (rk1, .inr (6, [.int 4, .int 5, .ref cak1, .int 0])), (rk2, .inr (6, [.int 4, .int 8, .ref cak2, .int 0])), (rk3, .inr (6, [.int 4, .int 6, .ref cak3, .int 0])), (cak0, .inl (cck0, 5, .inl (fun _ => 0))), (cak1, .inl (cck1, 20, .inl (fun _ => 0))), (cak2, .inl (cck2, 32, .inl (fun _ => 0))), (cak3, .inl (cck3, 24, .inl (fun _ => 0))), (i0, .inr (0, [.ref rx0, .ref rx1, .ref rx2, .ref rx3, .ref eax, .int 0])), (rx0, .inr (6, [.int 1, .int 5, .ref cax0, .int 0])), (rx1, .inr (6, [.int 4, .int 5, .ref cax1, .int 0])), (rx2, .inr (6, [.int 4, .int 8, .ref cax2, .int 0])), (rx3, .inr (6, [.int 4, .int 6, .ref cax3, .int 0])), (cax0, .inl (ccx0, 5, .inl (fun _ => 0))), (cax1, .inl (ccx1, 20, .inl (fun _ => 0))), (cax2, .inl (ccx2, 32, .inl (fun _ => 0))), (cax3, .inl (ccx3, 24, .inl (fun _ => 0))), (eax, .inl (cex, 8, .inr (.inr (.inr (.inr fex))))), (i1, .inr (0, [.ref ry0, .ref ry1, .ref ry2, .ref ry3, .ref eay, .int 0])), (ry0, .inr (6, [.int 1, .int 5, .ref cay0, .int 0])), (ry1, .inr (6, [.int 4, .int 5, .ref cay1, .int 0])), (ry2, .inr (6, [.int 4, .int 8, .ref cay2, .int 0])), (ry3, .inr (6, [.int 4, .int 6, .ref cay3, .int 0])), (cay0, .inl (ccy0, 5, .inl (fun _ => 0))), (cay1, .inl (ccy1, 20, .inl (fun _ => 0))), (cay2, .inl (ccy2, 32, .inl (fun _ => 0))), (cay3, .inl (ccy3, 24, .inl (fun _ => 0))), (eay, .inl (cey, 8, .inr (.inr (.inr (.inr fey)))))]) (w1 := []) hP hD [0, 3] [1, 2, 4, 5, 6, 7, 8, 9, 10, 11, 12, 13, 14, 15, 16, 17, 18, 19, 20, 21, 22, 23, 24, 25, 26, 27, 28, 29, 30, 31, 32] rfl rfl (by decide) (by decide) hk1 hFc tz_P0 tz_D0
      generalize H1 = H at hP hS ⊢
      have hP : va_P (dC, dI) vwCl [(ai, .inl (ci, 2, .inr (.inr (.inr (.inr (tz_w2 i0 i1)))))), (ak, .inl (ck, 2, .inl (fun _ => 0))), (bk, .inr (0, [.ref rk0, .ref rk1, .ref rk2, .ref rk3, .ref eak, .int 0])), (rk0, .inr (6, [.int 1, .int 5, .ref cak0, .int 0])), (rk1, .inr (6, [.int 4, .int 5, .ref cak1, .int 0])), (rk2, .inr (6, [.int 4, .int 8, .ref cak2, .int 0])), (rk3, .inr (6, [.int 4, .int 6, .ref cak3, .int 0])), (cak0, .inl (cck0, 5, .inl (fun _ => 0))), (cak1, .inl (cck1, 20, .inl (fun _ => 0))), (cak2, .inl (cck2, 32, .inl (fun _ => 0))), (cak3, .inl (cck3, 24, .inl (fun _ => 0))), (i0, .inr (0, [.ref rx0, .ref rx1, .ref rx2, .ref rx3, .ref eax, .int 0])), (rx0, .inr (6, [.int 1, .int 5, .ref cax0, .int 0])), (rx1, .inr (6, [.int 4, .int 5, .ref cax1, .int 0])), (rx2, .inr (6, [.int 4, .int 8, .ref cax2, .int 0])), (rx3, .inr (6, [.int 4, .int 6, .ref cax3, .int 0])), (cax0, .inl (ccx0, 5, .inl (fun _ => 0))), (cax1, .inl (ccx1, 20, .inl (fun _ => 0))), (cax2, .inl (ccx2, 32, .inl (fun _ => 0))), (cax3, .inl (ccx3, 24, .inl (fun _ => 0))), (eax, .inl (cex, 8, .inr (.inr (.inr (.inr fex))))), (i1, .inr (0, [.ref ry0, .ref ry1, .ref ry2, .ref ry3, .ref eay, .int 0])), (ry0, .inr (6, [.int 1, .int 5, .ref cay0, .int 0])), (ry1, .inr (6, [.int 4, .int 5, .ref cay1, .int 0])), (ry2, .inr (6, [.int 4, .int 8, .ref cay2, .int 0])), (ry3, .inr (6, [.int 4, .int 6, .ref cay3, .int 0])), (cay0, .inl (ccy0, 5, .inl (fun _ => 0))), (cay1, .inl (ccy1, 20, .inl (fun _ => 0))), (cay2, .inl (ccy2, 32, .inl (fun _ => 0))), (cay3, .inl (ccy3, 24, .inl (fun _ => 0))), (eay, .inl (cey, 8, .inr (.inr (.inr (.inr fey)))))] H := hP
      have hD : va_D A [(ai, .inl (ci, 2, .inr (.inr (.inr (.inr (tz_w2 i0 i1)))))), (ak, .inl (ck, 2, .inl (fun _ => 0))), (bk, .inr (0, [.ref rk0, .ref rk1, .ref rk2, .ref rk3, .ref eak, .int 0])), (rk0, .inr (6, [.int 1, .int 5, .ref cak0, .int 0])), (rk1, .inr (6, [.int 4, .int 5, .ref cak1, .int 0])), (rk2, .inr (6, [.int 4, .int 8, .ref cak2, .int 0])), (rk3, .inr (6, [.int 4, .int 6, .ref cak3, .int 0])), (cak0, .inl (cck0, 5, .inl (fun _ => 0))), (cak1, .inl (cck1, 20, .inl (fun _ => 0))), (cak2, .inl (cck2, 32, .inl (fun _ => 0))), (cak3, .inl (cck3, 24, .inl (fun _ => 0))), (i0, .inr (0, [.ref rx0, .ref rx1, .ref rx2, .ref rx3, .ref eax, .int 0])), (rx0, .inr (6, [.int 1, .int 5, .ref cax0, .int 0])), (rx1, .inr (6, [.int 4, .int 5, .ref cax1, .int 0])), (rx2, .inr (6, [.int 4, .int 8, .ref cax2, .int 0])), (rx3, .inr (6, [.int 4, .int 6, .ref cax3, .int 0])), (cax0, .inl (ccx0, 5, .inl (fun _ => 0))), (cax1, .inl (ccx1, 20, .inl (fun _ => 0))), (cax2, .inl (ccx2, 32, .inl (fun _ => 0))), (cax3, .inl (ccx3, 24, .inl (fun _ => 0))), (eax, .inl (cex, 8, .inr (.inr (.inr (.inr fex))))), (i1, .inr (0, [.ref ry0, .ref ry1, .ref ry2, .ref ry3, .ref eay, .int 0])), (ry0, .inr (6, [.int 1, .int 5, .ref cay0, .int 0])), (ry1, .inr (6, [.int 4, .int 5, .ref cay1, .int 0])), (ry2, .inr (6, [.int 4, .int 8, .ref cay2, .int 0])), (ry3, .inr (6, [.int 4, .int 6, .ref cay3, .int 0])), (cay0, .inl (ccy0, 5, .inl (fun _ => 0))), (cay1, .inl (ccy1, 20, .inl (fun _ => 0))), (cay2, .inl (ccy2, 32, .inl (fun _ => 0))), (cay3, .inl (ccy3, 24, .inl (fun _ => 0))), (eay, .inl (cey, 8, .inr (.inr (.inr (.inr fey)))))] := hD
      obtain rfl : (-2) = r_14 := hw_15.symm
      exact W.iret (v := (-2)) hx hb hr (fun t ht hW => ⟨⟨(-2), (), rfl, (if_neg hc_5).symm, trivial⟩, hS.F ht⟩) hS.2.2 dX11_image_14
set_option maxRecDepth 20000 in
theorem ggX11_from_X11_isImage : GoodIn wsX11_from wsX11_isImage := goodIn_r _ [8, 3, 1, 46, 47, 48, 49, 50, 51, 52, 53, 54, 55, 56, 57] (by decide +kernel) (by decide +kernel)
set_option maxRecDepth 20000 in
theorem gX11_from_X11_isImage : GoodIn wsX11_from (wsV RX11 277 RX11 yX11_isImage wsX11_isImage) := goodIn_app (goodIn_of _ (by decide +kernel)) ggX11_from_X11_isImage
set_option maxRecDepth 20000 in
theorem ggX11_from_X11_refuse : GoodIn wsX11_from wsX11_refuse := goodIn_r _ [12, 13, 14, 15, 7, 16, 17, 46, 47, 48, 49, 50, 51, 52, 53, 54, 55, 56, 57] (by decide +kernel) (by decide +kernel)
set_option maxRecDepth 20000 in
theorem gX11_from_X11_refuse : GoodIn wsX11_from (wsV RX11 106 RX11 yX11_refuse wsX11_refuse) := goodIn_app (goodIn_of _ (by decide +kernel)) ggX11_from_X11_refuse
theorem dX11_from_0 : decode cX11_from 0 = .ok (.aload_n 0, 1) := by decide +kernel
theorem dX11_from_1 : decode cX11_from 1 = .ok (.iload_n 1, 1) := by decide +kernel
theorem dX11_from_2 : decode cX11_from 2 = .ok (.invokevirtual 277, 3) := by decide +kernel
theorem dX11_from_5 : decode cX11_from 5 = .ok (.ifCond .ne 10, 3) := by decide +kernel
theorem dX11_from_15 : decode cX11_from 15 = .ok (.aload_n 0, 1) := by decide +kernel
theorem dX11_from_16 : decode cX11_from 16 = .ok (.getfield 42, 3) := by decide +kernel
theorem dX11_from_19 : decode cX11_from 19 = .ok (.iload_n 1, 1) := by decide +kernel
theorem dX11_from_20 : decode cX11_from 20 = .ok (.baload, 1) := by decide +kernel
theorem dX11_from_21 : decode cX11_from 21 = .ok (.ifCond .ne 10, 3) := by decide +kernel
theorem dX11_from_24 : decode cX11_from 24 = .ok (.aload_n 0, 1) := by decide +kernel
theorem dX11_from_25 : decode cX11_from 25 = .ok (.bipush (-3), 2) := by decide +kernel
theorem dX11_from_27 : decode cX11_from 27 = .ok (.invokevirtual 106, 3) := by decide +kernel
theorem dX11_from_30 : decode cX11_from 30 = .ok (.ireturn, 1) := by decide +kernel
theorem dX11_from_8 : decode cX11_from 8 = .ok (.aload_n 0, 1) := by decide +kernel
theorem dX11_from_9 : decode cX11_from 9 = .ok (.bipush (-2), 2) := by decide +kernel
theorem dX11_from_11 : decode cX11_from 11 = .ok (.invokevirtual 106, 3) := by decide +kernel
theorem dX11_from_14 : decode cX11_from 14 = .ok (.ireturn, 1) := by decide +kernel
set_option maxRecDepth 20000 in
theorem iw_k_x_from_X11 : ∀ w ∈ wsX110, w ∈ wsX11_from := by decide +kernel
set_option maxHeartbeats 4000000 in
set_option maxRecDepth 100000 in
theorem k_x_from (l : Launch) (dC : Nat → ClassId) (dI : Nat → Nat → Nat) (o : Nat) (aw : Nat) (bk : Nat) (ai : Nat) (ak : Nat) (sc : Nat) (rd : Nat) (fo : Nat) (tx : Nat) (ar : Nat) (atr : Nat) (ao : Nat) (ci : ClassId) (i0 : Nat) (i1 : Nat) (ck : ClassId) (cr : ClassId) (na : Int32) (sz : Nat) : Met l yX11_from wsX11_from ({ frames := 2, cells := 0, slots := 0, locals := 44 }) (va_Pc [.ref o, .int na] (fun U => U.heap.size = sz ∧ va_P (dC, dI) vwCl [(o, .inr (11, [.ref aw, .ref bk, .ref ai, .ref ak, .ref sc, .ref rd, .ref fo, .ref tx, .int 0, .ref ar, .ref atr, .ref ao])), (ai, .inl (ci, 2, .inr (.inr (.inr (.inr (tz_w2 i0 i1)))))), (ak, .inl (ck, 2, .inl (fun _ => 0))), (ar, .inl (cr, 3, .inl (fun _ => 0)))] U.heap ∧ va_K (dC, dI) vwCl [(ci, (.object "ThriceCounted$Bank")), (ck, .boolean), (cr, .int)] U ∧ va_D (fun _ => True) [(o, .inr (11, [.ref aw, .ref bk, .ref ai, .ref ak, .ref sc, .ref rd, .ref fo, .ref tx, .int 0, .ref ar, .ref atr, .ref ao])), (ai, .inl (ci, 2, .inr (.inr (.inr (.inr (tz_w2 i0 i1)))))), (ak, .inl (ck, 2, .inl (fun _ => 0))), (ar, .inl (cr, 3, .inl (fun _ => 0)))])) (va_Qi (fun (r : Int32) (_ : Unit) => r = (if 0 ≤ na ∧ na ≤ 1 then (-3) else (-2))) (fun _ _ => True) (va_A [(o, .inr (11, [.ref aw, .ref bk, .ref ai, .ref ak, .ref sc, .ref rd, .ref fo, .ref tx, .int 0, .ref ar, .ref atr, .ref ao])), (ai, .inl (ci, 2, .inr (.inr (.inr (.inr (tz_w2 i0 i1)))))), (ak, .inl (ck, 2, .inl (fun _ => 0))), (ar, .inl (cr, 3, .inl (fun _ => 0)))] sz)) 0 0 (va_A [(o, .inr (11, [.ref aw, .ref bk, .ref ai, .ref ak, .ref sc, .ref rd, .ref fo, .ref tx, .int 0, .ref ar, .ref atr, .ref ao])), (ai, .inl (ci, 2, .inr (.inr (.inr (.inr (tz_w2 i0 i1)))))), (ak, .inl (ck, 2, .inl (fun _ => 0))), (ar, .inl (cr, 3, .inl (fun _ => 0)))] sz) := by
  refine Met.ofW (cc := cX11_from) (maxL := 2) (ret := (some .int)) (by decide) rfl ?_
  intro p e s m args below meth c s₁ B hml hv
  obtain ⟨rfl, hsz, hP, hK, hD0⟩ := hv
  have hx := B.exec
  have hb := B.bytes
  have hr := B.returns
  have hts := atoms_spec (ws := wsX11_from) B.pre
  have hown : s.vm.findClass RX11 = some m.cls := findClass_of_methodNamed B.named
  have hlocks := B.notSynchronized
  subst hsz
  have hD := hD0.self (sz := s.heap.size)
  generalize hAe : va_A [(o, .inr (11, [.ref aw, .ref bk, .ref ai, .ref ak, .ref sc, .ref rd, .ref fo, .ref tx, .int 0, .ref ar, .ref atr, .ref ao])), (ai, .inl (ci, 2, .inr (.inr (.inr (.inr (tz_w2 i0 i1)))))), (ak, .inl (ck, 2, .inl (fun _ => 0))), (ar, .inl (cr, 3, .inl (fun _ => 0)))] s.heap.size = A at hD ⊢
  have hA : ∀ q : Nat, s.heap.size ≤ q → A q := fun q h => by rw [← hAe]; exact Or.inr h
  have hS : va_S A s.heap s.heap [] := va_S.rf
  have hP : va_P (dC, dI) vwCl [(o, .inr (11, [.ref aw, .ref bk, .ref ai, .ref ak, .ref sc, .ref rd, .ref fo, .ref tx, .int 0, .ref ar, .ref atr, .ref ao])), (ai, .inl (ci, 2, .inr (.inr (.inr (.inr (tz_w2 i0 i1)))))), (ak, .inl (ck, 2, .inl (fun _ => 0))), (ar, .inl (cr, 3, .inl (fun _ => 0)))] s.heap := hP
  have hl := lv_entry ([.ref o, .int na]) (n := 2) (Nat.le_of_ble_eq_true rfl)
  rw [lg_entry_eq]
  generalize (lg_sl ([.ref o, .int na]) ++ List.replicate (2 - (lg_sl ([.ref o, .int na])).length) Slot.unset).toArray = ls at hl ⊢
  have hl : lv_has ls 2 [(0, .ref o), (1, .int na)] := hl
  refine lv_aload_n hx hb dX11_from_0 rfl (lv_at hl 0 rfl) ?_
  refine lv_iload_n hx hb dX11_from_1 rfl (lv_at hl 1 rfl) ?_
  have hPc_1 := hP.sub (ws' := [(o, .inr (11, [.ref aw, .ref bk, .ref ai, .ref ak, .ref sc, .ref rd, .ref fo, .ref tx, .int 0, .ref ar, .ref atr, .ref ao])), (ai, .inl (ci, 2, .inr (.inr (.inr (.inr (tz_w2 i0 i1)))))), (ak, .inl (ck, 2, .inl (fun _ => 0)))]) [0, 1, 2] rfl
  have hKc_2 := hK.sub (tys' := [(ci, (.object "ThriceCounted$Bank")), (ck, .boolean)]) [0, 1] rfl
  refine vp_callSi (va_Run.run (va_runV (As := [.int na]) (rest := []) ⟨hx, hb, hml, hown, hts⟩ (k_isImage l dC dI o (.ref aw) (.ref bk) ai ak (.ref sc) (.ref rd) (.ref fo) (.ref tx) (.int 0) (.ref ar) (.ref atr) (.ref ao) ci i0 i1 ck na) (cwV 1 hts gX11_from_X11_isImage rfl rfl rfl (by decide +kernel) ⟨Nat.le_of_ble_eq_true rfl, Nat.le_of_ble_eq_true rfl⟩) ⟨fun a U g mk q => by obtain ⟨q0, qP, qK⟩ := q; exact ⟨q0, qP, va_K.moved (u := U) (U := U.calling g mk a) (Vm.Alike.refl U.vm) qK⟩, va_recv hK hP (ci := 11) (q0 := 0) rfl rfl, fun U hU hW => ⟨rfl, by rw [hU]; exact hPc_1, va_K.moved hW.alike hKc_2⟩⟩ rfl rfl hl.1 rfl (lv_room (Nat.le_of_ble_eq_true rfl)) dX11_from_2 ⟨Nat.le_of_ble_eq_true rfl, Nat.le_of_ble_eq_true rfl⟩)) (fun r_3 hw_4 => ?_)
  by_cases hc_5 : 0 ≤ na ∧ na ≤ 1
  · obtain rfl : 1 = r_3 := (hw_4.trans (if_pos hc_5)).symm
    refine lv_if_ne (tgt := 15) hx hb dX11_from_5 (by decide) (fun c_6 => ?_) (fun c_6 => ?_)
    · refine lv_aload_n hx hb dX11_from_15 rfl (lv_at hl 0 rfl) ?_
      refine va_get (D := (dC, dI)) (ci := 11) (v := .ref ak) (C := RX11) (T := TX11) (N := 12) hx hb hts iw_k_x_from_X11 hown hK hP 0 rfl rfl 3 (by decide) (hts (.fieldLink RX11 42 "ThriceCounted" "kept" "[Z") (by decide +kernel)) (fun _ h9 => h9) rfl dX11_from_16 ?_
      refine lv_iload_n hx hb dX11_from_19 rfl (lv_at hl 1 rfl) ?_
      refine va_zald hx hb hK hP 2 1 rfl rfl (tz_inb hc_5 (by decide)) dX11_from_20 ?_
      refine tz_i 0 rfl ?_
      refine lv_if_ne (tgt := 31) hx hb dX11_from_21 (by decide) (fun c_7 => ?_) (fun c_7 => ?_)
      · exact absurd c_7 (by decide)
      · refine lv_aload_n hx hb dX11_from_24 rfl (lv_at hl 0 rfl) ?_
        refine lv_bipush (v := (-3)) hx hb dX11_from_25 (by decide) ?_
        have hPc := hP.sub (ws' := [(o, .inr (11, [.ref aw, .ref bk, .ref ai, .ref ak, .ref sc, .ref rd, .ref fo, .ref tx, .int 0, .ref ar, .ref atr, .ref ao])), (ar, .inl (cr, 3, .inl (fun _ => 0)))]) [0, 3] rfl
        have hDc := hD.sub (ws' := [(o, .inr (11, [.ref aw, .ref bk, .ref ai, .ref ak, .ref sc, .ref rd, .ref fo, .ref tx, .int 0, .ref ar, .ref atr, .ref ao])), (ar, .inl (cr, 3, .inl (fun _ => 0)))]) [0, 3] (by decide) rfl
        have hKc := hK.sub (tys' := [(cr, .int)]) [2] rfl
        have hFc := va_free (wc := [(o, .inr (11, [.ref aw, .ref bk, .ref ai, .ref ak, .ref sc, .ref rd, .ref fo, .ref tx, .int 0, .ref ar, .ref atr, .ref ao])), (ar, .inl (cr, 3, .inl (fun _ => 0)))]) hD hS hA [0, 3] rfl
        refine va_calli (va_runV (As := [.int (-3)]) (rest := []) ⟨hx, hb, hml, hown, hts⟩ (k_refuse l dC dI o (.ref aw) (.ref bk) (.ref ai) (.ref ak) (.ref sc) (.ref rd) (.ref fo) (.ref tx) (.int 0) ar (.ref atr) (.ref ao) cr (fun _ => 0) (-3) s.heap.size) (cwV 1 hts gX11_from_X11_refuse rfl rfl rfl (by decide +kernel) ⟨Nat.le_of_ble_eq_true rfl, Nat.le_of_ble_eq_true rfl⟩) ⟨fun a U g mk q => by obtain ⟨q0, q1, qP, qK, qD⟩ := q; exact ⟨q0, q1, qP, va_K.moved (u := U) (U := U.calling g mk a) (Vm.Alike.refl U.vm) qK, qD⟩, va_recv hK hP (ci := 11) (q0 := 0) rfl rfl, fun U hU hW => ⟨rfl, by rw [hU], by rw [hU]; exact hPc, va_K.moved hW.alike hKc, hDc.weaken (fun _ _ _ _ => trivial)⟩⟩ rfl rfl hl.1 rfl (lv_room (Nat.le_of_ble_eq_true rfl)) dX11_from_27 ⟨Nat.le_of_ble_eq_true rfl, Nat.le_of_ble_eq_true rfl⟩) hS (fun q _ h => hFc q h) hFc (fun r_8 u_ t H1 locs ht hvm hw_9 hB hz1 hk1 hS => ?_)
        obtain ⟨hP, hD⟩ := va_join (wr := [(ai, .inl (ci, 2, .inr (.inr (.inr (.inr (tz_w2 i0 i1)))))), (ak, .inl (ck, 2, .inl (fun _ => 0)))]) (w1 := []) hP hD [0, 3] [1, 2] rfl rfl (by decide) (by decide) hk1 hFc tz_P0 tz_D0
        generalize H1 = H at hP hS ⊢
        have hP : va_P (dC, dI) vwCl [(ai, .inl (ci, 2, .inr (.inr (.inr (.inr (tz_w2 i0 i1)))))), (ak, .inl (ck, 2, .inl (fun _ => 0)))] H := hP
        have hD : va_D A [(ai, .inl (ci, 2, .inr (.inr (.inr (.inr (tz_w2 i0 i1)))))), (ak, .inl (ck, 2, .inl (fun _ => 0)))] := hD
        obtain rfl : (-3) = r_8 := hw_9.symm
        exact W.iret (v := (-3)) hx hb hr (fun t ht hW => ⟨⟨(-3), (), rfl, (if_pos hc_5).symm, trivial⟩, hS.F ht⟩) hS.2.2 dX11_from_30
    · exact absurd c_6 (by decide)
  · obtain rfl : 0 = r_3 := (hw_4.trans (if_neg hc_5)).symm
    refine lv_if_ne (tgt := 15) hx hb dX11_from_5 (by decide) (fun c_10 => ?_) (fun c_10 => ?_)
    · exact absurd c_10 (by decide)
    · refine lv_aload_n hx hb dX11_from_8 rfl (lv_at hl 0 rfl) ?_
      refine lv_bipush (v := (-2)) hx hb dX11_from_9 (by decide) ?_
      have hPc := hP.sub (ws' := [(o, .inr (11, [.ref aw, .ref bk, .ref ai, .ref ak, .ref sc, .ref rd, .ref fo, .ref tx, .int 0, .ref ar, .ref atr, .ref ao])), (ar, .inl (cr, 3, .inl (fun _ => 0)))]) [0, 3] rfl
      have hDc := hD.sub (ws' := [(o, .inr (11, [.ref aw, .ref bk, .ref ai, .ref ak, .ref sc, .ref rd, .ref fo, .ref tx, .int 0, .ref ar, .ref atr, .ref ao])), (ar, .inl (cr, 3, .inl (fun _ => 0)))]) [0, 3] (by decide) rfl
      have hKc := hK.sub (tys' := [(cr, .int)]) [2] rfl
      have hFc := va_free (wc := [(o, .inr (11, [.ref aw, .ref bk, .ref ai, .ref ak, .ref sc, .ref rd, .ref fo, .ref tx, .int 0, .ref ar, .ref atr, .ref ao])), (ar, .inl (cr, 3, .inl (fun _ => 0)))]) hD hS hA [0, 3] rfl
      refine va_calli (va_runV (As := [.int (-2)]) (rest := []) ⟨hx, hb, hml, hown, hts⟩ (k_refuse l dC dI o (.ref aw) (.ref bk) (.ref ai) (.ref ak) (.ref sc) (.ref rd) (.ref fo) (.ref tx) (.int 0) ar (.ref atr) (.ref ao) cr (fun _ => 0) (-2) s.heap.size) (cwV 1 hts gX11_from_X11_refuse rfl rfl rfl (by decide +kernel) ⟨Nat.le_of_ble_eq_true rfl, Nat.le_of_ble_eq_true rfl⟩) ⟨fun a U g mk q => by obtain ⟨q0, q1, qP, qK, qD⟩ := q; exact ⟨q0, q1, qP, va_K.moved (u := U) (U := U.calling g mk a) (Vm.Alike.refl U.vm) qK, qD⟩, va_recv hK hP (ci := 11) (q0 := 0) rfl rfl, fun U hU hW => ⟨rfl, by rw [hU], by rw [hU]; exact hPc, va_K.moved hW.alike hKc, hDc.weaken (fun _ _ _ _ => trivial)⟩⟩ rfl rfl hl.1 rfl (lv_room (Nat.le_of_ble_eq_true rfl)) dX11_from_11 ⟨Nat.le_of_ble_eq_true rfl, Nat.le_of_ble_eq_true rfl⟩) hS (fun q _ h => hFc q h) hFc (fun r_11 u_ t H1 locs ht hvm hw_12 hB hz1 hk1 hS => ?_)
      obtain ⟨hP, hD⟩ := va_join (wr := [(ai, .inl (ci, 2, .inr (.inr (.inr (.inr (tz_w2 i0 i1)))))), (ak, .inl (ck, 2, .inl (fun _ => 0)))]) (w1 := []) hP hD [0, 3] [1, 2] rfl rfl (by decide) (by decide) hk1 hFc tz_P0 tz_D0
      generalize H1 = H at hP hS ⊢
      have hP : va_P (dC, dI) vwCl [(ai, .inl (ci, 2, .inr (.inr (.inr (.inr (tz_w2 i0 i1)))))), (ak, .inl (ck, 2, .inl (fun _ => 0)))] H := hP
      have hD : va_D A [(ai, .inl (ci, 2, .inr (.inr (.inr (.inr (tz_w2 i0 i1)))))), (ak, .inl (ck, 2, .inl (fun _ => 0)))] := hD
      obtain rfl : (-2) = r_11 := hw_12.symm
      exact W.iret (v := (-2)) hx hb hr (fun t ht hW => ⟨⟨(-2), (), rfl, (if_neg hc_5).symm, trivial⟩, hS.F ht⟩) hS.2.2 dX11_from_14
set_option maxRecDepth 20000 in
theorem ggX11_status_X11_refuseAs : GoodIn wsX11_status wsX11_refuseAs := goodIn_r _ [6, 1, 7, 8, 9, 10, 11, 12, 13, 14, 15, 16, 17, 18] (by decide +kernel) (by decide +kernel)
set_option maxRecDepth 20000 in
theorem gX11_status_X11_refuseAs : GoodIn wsX11_status (wsV RX11 172 RX11 yX11_refuseAs wsX11_refuseAs) := goodIn_app (goodIn_of _ (by decide +kernel)) ggX11_status_X11_refuseAs
theorem dX11_status_0 : decode cX11_status 0 = .ok (.iload_n 1, 1) := by decide +kernel
theorem dX11_status_1 : decode cX11_status 1 = .ok (.ifCond .lt 12, 3) := by decide +kernel
theorem dX11_status_13 : decode cX11_status 13 = .ok (.aload_n 0, 1) := by decide +kernel
theorem dX11_status_14 : decode cX11_status 14 = .ok (.bipush (-2), 2) := by decide +kernel
theorem dX11_status_16 : decode cX11_status 16 = .ok (.iconst (-1), 1) := by decide +kernel
theorem dX11_status_17 : decode cX11_status 17 = .ok (.invokevirtual 172, 3) := by decide +kernel
theorem dX11_status_20 : decode cX11_status 20 = .ok (.ireturn, 1) := by decide +kernel
theorem dX11_status_4 : decode cX11_status 4 = .ok (.iload_n 1, 1) := by decide +kernel
theorem dX11_status_5 : decode cX11_status 5 = .ok (.aload_n 0, 1) := by decide +kernel
theorem dX11_status_6 : decode cX11_status 6 = .ok (.getfield 75, 3) := by decide +kernel
theorem dX11_status_9 : decode cX11_status 9 = .ok (.arraylength, 1) := by decide +kernel
theorem dX11_status_10 : decode cX11_status 10 = .ok (.if_icmp .lt 11, 3) := by decide +kernel
theorem dX11_status_21 : decode cX11_status 21 = .ok (.aload_n 0, 1) := by decide +kernel
theorem dX11_status_22 : decode cX11_status 22 = .ok (.getfield 75, 3) := by decide +kernel
theorem dX11_status_25 : decode cX11_status 25 = .ok (.iload_n 1, 1) := by decide +kernel
theorem dX11_status_26 : decode cX11_status 26 = .ok (.iaload, 1) := by decide +kernel
theorem dX11_status_27 : decode cX11_status 27 = .ok (.ireturn, 1) := by decide +kernel
set_option maxRecDepth 20000 in
theorem iw_k_x_status_X11 : ∀ w ∈ wsX110, w ∈ wsX11_status := by decide +kernel
set_option maxHeartbeats 4000000 in
set_option maxRecDepth 100000 in
theorem k_x_status (l : Launch) (dC : Nat → ClassId) (dI : Nat → Nat → Nat) (o : Nat) (aw : Nat) (bk : Nat) (ai : Nat) (ak : Nat) (sc : Nat) (rd : Nat) (fo : Nat) (tx : Nat) (ar : Nat) (atr : Nat) (ao : Nat) (cr : ClassId) (na : Int32) (sz : Nat) : Met l yX11_status wsX11_status ({ frames := 1, cells := 0, slots := 0, locals := 23 }) (va_Pc [.ref o, .int na] (fun U => U.heap.size = sz ∧ va_P (dC, dI) vwCl [(o, .inr (11, [.ref aw, .ref bk, .ref ai, .ref ak, .ref sc, .ref rd, .ref fo, .ref tx, .int 0, .ref ar, .ref atr, .ref ao])), (ar, .inl (cr, 3, .inl (fun _ => 0)))] U.heap ∧ va_K (dC, dI) vwCl [(cr, .int)] U ∧ va_D (fun _ => True) [(o, .inr (11, [.ref aw, .ref bk, .ref ai, .ref ak, .ref sc, .ref rd, .ref fo, .ref tx, .int 0, .ref ar, .ref atr, .ref ao])), (ar, .inl (cr, 3, .inl (fun _ => 0)))])) (va_Qi (fun (r : Int32) (_ : Unit) => r = (if 0 ≤ na ∧ na ≤ 2 then 0 else (-1))) (fun _ _ => True) (va_A [(o, .inr (11, [.ref aw, .ref bk, .ref ai, .ref ak, .ref sc, .ref rd, .ref fo, .ref tx, .int 0, .ref ar, .ref atr, .ref ao])), (ar, .inl (cr, 3, .inl (fun _ => 0)))] sz)) 0 0 (va_A [(o, .inr (11, [.ref aw, .ref bk, .ref ai, .ref ak, .ref sc, .ref rd, .ref fo, .ref tx, .int 0, .ref ar, .ref atr, .ref ao])), (ar, .inl (cr, 3, .inl (fun _ => 0)))] sz) := by
  refine Met.ofW (cc := cX11_status) (maxL := 2) (ret := (some .int)) (by decide) rfl ?_
  intro p e s m args below meth c s₁ B hml hv
  obtain ⟨rfl, hsz, hP, hK, hD0⟩ := hv
  have hx := B.exec
  have hb := B.bytes
  have hr := B.returns
  have hts := atoms_spec (ws := wsX11_status) B.pre
  have hown : s.vm.findClass RX11 = some m.cls := findClass_of_methodNamed B.named
  have hlocks := B.notSynchronized
  subst hsz
  have hD := hD0.self (sz := s.heap.size)
  generalize hAe : va_A [(o, .inr (11, [.ref aw, .ref bk, .ref ai, .ref ak, .ref sc, .ref rd, .ref fo, .ref tx, .int 0, .ref ar, .ref atr, .ref ao])), (ar, .inl (cr, 3, .inl (fun _ => 0)))] s.heap.size = A at hD ⊢
  have hA : ∀ q : Nat, s.heap.size ≤ q → A q := fun q h => by rw [← hAe]; exact Or.inr h
  have hS : va_S A s.heap s.heap [] := va_S.rf
  have hP : va_P (dC, dI) vwCl [(o, .inr (11, [.ref aw, .ref bk, .ref ai, .ref ak, .ref sc, .ref rd, .ref fo, .ref tx, .int 0, .ref ar, .ref atr, .ref ao])), (ar, .inl (cr, 3, .inl (fun _ => 0)))] s.heap := hP
  have hl := lv_entry ([.ref o, .int na]) (n := 2) (Nat.le_of_ble_eq_true rfl)
  rw [lg_entry_eq]
  generalize (lg_sl ([.ref o, .int na]) ++ List.replicate (2 - (lg_sl ([.ref o, .int na])).length) Slot.unset).toArray = ls at hl ⊢
  have hl : lv_has ls 2 [(0, .ref o), (1, .int na)] := hl
  refine lv_iload_n hx hb dX11_status_0 rfl (lv_at hl 1 rfl) ?_
  refine lv_if_lt (tgt := 13) hx hb dX11_status_1 (by decide) (fun c_1 => ?_) (fun c_1 => ?_)
  · refine lv_aload_n hx hb dX11_status_13 rfl (lv_at hl 0 rfl) ?_
    refine lv_bipush (v := (-2)) hx hb dX11_status_14 (by decide) ?_
    refine lv_iconst (v := (-1)) hx hb dX11_status_16 (by decide) ?_
    have hPc := hP.sub (ws' := [(o, .inr (11, [.ref aw, .ref bk, .ref ai, .ref ak, .ref sc, .ref rd, .ref fo, .ref tx, .int 0, .ref ar, .ref atr, .ref ao])), (ar, .inl (cr, 3, .inl (fun _ => 0)))]) [0, 1] rfl
    have hDc := hD.sub (ws' := [(o, .inr (11, [.ref aw, .ref bk, .ref ai, .ref ak, .ref sc, .ref rd, .ref fo, .ref tx, .int 0, .ref ar, .ref atr, .ref ao])), (ar, .inl (cr, 3, .inl (fun _ => 0)))]) [0, 1] (by decide) rfl
    have hKc := hK.sub (tys' := [(cr, .int)]) [0] rfl
    have hFc := va_free (wc := [(o, .inr (11, [.ref aw, .ref bk, .ref ai, .ref ak, .ref sc, .ref rd, .ref fo, .ref tx, .int 0, .ref ar, .ref atr, .ref ao])), (ar, .inl (cr, 3, .inl (fun _ => 0)))]) hD hS hA [0, 1] rfl
    refine va_calli (va_runV (As := [.int (-2), .int (-1)]) (rest := []) ⟨hx, hb, hml, hown, hts⟩ (k_refuseAs l dC dI o (.ref aw) (.ref bk) (.ref ai) (.ref ak) (.ref sc) (.ref rd) (.ref fo) (.ref tx) (.int 0) ar (.ref atr) (.ref ao) cr (fun _ => 0) (-2) (-1) s.heap.size) (cwV 2 hts gX11_status_X11_refuseAs rfl rfl rfl (by decide +kernel) ⟨Nat.le_of_ble_eq_true rfl, Nat.le_of_ble_eq_true rfl⟩) ⟨fun a U g mk q => by obtain ⟨q0, q1, qP, qK, qD⟩ := q; exact ⟨q0, q1, qP, va_K.moved (u := U) (U := U.calling g mk a) (Vm.Alike.refl U.vm) qK, qD⟩, va_recv hK hP (ci := 11) (q0 := 0) rfl rfl, fun U hU hW => ⟨rfl, by rw [hU], by rw [hU]; exact hPc, va_K.moved hW.alike hKc, hDc.weaken (fun _ _ _ _ => trivial)⟩⟩ rfl rfl hl.1 rfl (lv_room (Nat.le_of_ble_eq_true rfl)) dX11_status_17 ⟨Nat.le_of_ble_eq_true rfl, Nat.le_of_ble_eq_true rfl⟩) hS (fun q _ h => hFc q h) hFc (fun r_2 u_ t H1 locs ht hvm hw_3 hB hz1 hk1 hS => ?_)
    obtain ⟨hP, hD⟩ := va_join (wr := []) (w1 := []) hP hD [0, 1] [] rfl rfl (by decide) (by decide) hk1 hFc tz_P0 tz_D0
    generalize H1 = H at hP hS ⊢
    have hP : va_P (dC, dI) vwCl [] H := hP
    have hD : va_D A [] := hD
    obtain rfl : (-1) = r_2 := hw_3.symm
    exact W.iret (v := (-1)) hx hb hr (fun t ht hW => ⟨⟨(-1), (), rfl, (if_neg (fun z => tz_ltn c_1 z.1)).symm, trivial⟩, hS.F ht⟩) hS.2.2 dX11_status_20
  · refine lv_iload_n hx hb dX11_status_4 rfl (lv_at hl 1 rfl) ?_
    refine lv_aload_n hx hb dX11_status_5 rfl (lv_at hl 0 rfl) ?_
    refine va_get (D := (dC, dI)) (ci := 11) (v := .ref ar) (C := RX11) (T := TX11) (N := 12) hx hb hts iw_k_x_status_X11 hown hK hP 0 rfl rfl 9 (by decide) (hts (.fieldLink RX11 75 "ThriceCounted" "refused" "[I") (by decide +kernel)) (fun _ h9 => h9) rfl dX11_status_6 ?_
    refine va_alen (v := 3) hx hb hK hP 1 0 rfl rfl rfl dX11_status_9 ?_
    refine lv_icmp_lt (tgt := 21) hx hb dX11_status_10 (by decide) (fun c_4 => ?_) (fun c_4 => ?_)
    · refine lv_aload_n hx hb dX11_status_21 rfl (lv_at hl 0 rfl) ?_
      refine va_get (D := (dC, dI)) (ci := 11) (v := .ref ar) (C := RX11) (T := TX11) (N := 12) hx hb hts iw_k_x_status_X11 hown hK hP 0 rfl rfl 9 (by decide) (hts (.fieldLink RX11 75 "ThriceCounted" "refused" "[I") (by decide +kernel)) (fun _ h9 => h9) rfl dX11_status_22 ?_
      refine lv_iload_n hx hb dX11_status_25 rfl (lv_at hl 1 rfl) ?_
      refine va_iald hx hb hK hP 1 0 rfl rfl (tz_in c_1 (tz_ltn c_4) (by decide)) dX11_status_26 ?_
      refine tz_i 0 rfl ?_
      exact W.iret (v := 0) hx hb hr (fun t ht hW => ⟨⟨0, (), rfl, (if_pos ⟨tz_nlt c_1, tz_ltle (tz_ltn c_4) (by decide)⟩).symm, trivial⟩, hS.F ht⟩) hS.2.2 dX11_status_27
    · refine lv_aload_n hx hb dX11_status_13 rfl (lv_at hl 0 rfl) ?_
      refine lv_bipush (v := (-2)) hx hb dX11_status_14 (by decide) ?_
      refine lv_iconst (v := (-1)) hx hb dX11_status_16 (by decide) ?_
      have hPc := hP.sub (ws' := [(o, .inr (11, [.ref aw, .ref bk, .ref ai, .ref ak, .ref sc, .ref rd, .ref fo, .ref tx, .int 0, .ref ar, .ref atr, .ref ao])), (ar, .inl (cr, 3, .inl (fun _ => 0)))]) [0, 1] rfl
      have hDc := hD.sub (ws' := [(o, .inr (11, [.ref aw, .ref bk, .ref ai, .ref ak, .ref sc, .ref rd, .ref fo, .ref tx, .int 0, .ref ar, .ref atr, .ref ao])), (ar, .inl (cr, 3, .inl (fun _ => 0)))]) [0, 1] (by decide) rfl
      have hKc := hK.sub (tys' := [(cr, .int)]) [0] rfl
      have hFc := va_free (wc := [(o, .inr (11, [.ref aw, .ref bk, .ref ai, .ref ak, .ref sc, .ref rd, .ref fo, .ref tx, .int 0, .ref ar, .ref atr, .ref ao])), (ar, .inl (cr, 3, .inl (fun _ => 0)))]) hD hS hA [0, 1] rfl
      refine va_calli (va_runV (As := [.int (-2), .int (-1)]) (rest := []) ⟨hx, hb, hml, hown, hts⟩ (k_refuseAs l dC dI o (.ref aw) (.ref bk) (.ref ai) (.ref ak) (.ref sc) (.ref rd) (.ref fo) (.ref tx) (.int 0) ar (.ref atr) (.ref ao) cr (fun _ => 0) (-2) (-1) s.heap.size) (cwV 2 hts gX11_status_X11_refuseAs rfl rfl rfl (by decide +kernel) ⟨Nat.le_of_ble_eq_true rfl, Nat.le_of_ble_eq_true rfl⟩) ⟨fun a U g mk q => by obtain ⟨q0, q1, qP, qK, qD⟩ := q; exact ⟨q0, q1, qP, va_K.moved (u := U) (U := U.calling g mk a) (Vm.Alike.refl U.vm) qK, qD⟩, va_recv hK hP (ci := 11) (q0 := 0) rfl rfl, fun U hU hW => ⟨rfl, by rw [hU], by rw [hU]; exact hPc, va_K.moved hW.alike hKc, hDc.weaken (fun _ _ _ _ => trivial)⟩⟩ rfl rfl hl.1 rfl (lv_room (Nat.le_of_ble_eq_true rfl)) dX11_status_17 ⟨Nat.le_of_ble_eq_true rfl, Nat.le_of_ble_eq_true rfl⟩) hS (fun q _ h => hFc q h) hFc (fun r_5 u_ t H1 locs ht hvm hw_6 hB hz1 hk1 hS => ?_)
      obtain ⟨hP, hD⟩ := va_join (wr := []) (w1 := []) hP hD [0, 1] [] rfl rfl (by decide) (by decide) hk1 hFc tz_P0 tz_D0
      generalize H1 = H at hP hS ⊢
      have hP : va_P (dC, dI) vwCl [] H := hP
      have hD : va_D A [] := hD
      obtain rfl : (-1) = r_5 := hw_6.symm
      exact W.iret (v := (-1)) hx hb hr (fun t ht hW => ⟨⟨(-1), (), rfl, (if_neg (fun z => tz_gele (tz_nlt c_4) (by decide) z.2)).symm, trivial⟩, hS.F ht⟩) hS.2.2 dX11_status_20
set_option maxRecDepth 20000 in
theorem ggX11_count_X11_within : GoodIn wsX11_count wsX11_within := goodIn_r _ [4] (by decide +kernel) (by decide +kernel)
set_option maxRecDepth 20000 in
theorem gX11_count_X11_within : GoodIn wsX11_count (va_wsS RX11 102 yX11_within wsX11_within) := goodIn_app (goodIn_of _ (by decide +kernel)) ggX11_count_X11_within
set_option maxRecDepth 20000 in
theorem ggX11_count_X11_howMany : GoodIn wsX11_count wsX11_howMany := goodIn_r _ [17, 18, 19, 20, 21, 22, 23, 24, 25, 26, 27, 28, 29, 30, 31, 32, 33, 34, 35, 36, 37, 38, 39, 40, 41, 42, 43, 44, 45, 46, 47, 48, 49, 50, 51, 52, 53, 54, 55, 56, 57] (by decide +kernel) (by decide +kernel)
set_option maxRecDepth 20000 in
theorem gX11_count_X11_howMany : GoodIn wsX11_count (wsV RX11 280 RX11 yX11_howMany wsX11_howMany) := goodIn_app (goodIn_of _ (by decide +kernel)) ggX11_count_X11_howMany
set_option maxRecDepth 20000 in
theorem ggX11_count_X11_refuse : GoodIn wsX11_count wsX11_refuse := goodIn_r _ [8, 9, 10, 11, 3, 12, 13, 36, 37, 38, 39, 40, 41, 42, 43, 44, 45, 46, 47] (by decide +kernel) (by decide +kernel)
set_option maxRecDepth 20000 in
theorem gX11_count_X11_refuse : GoodIn wsX11_count (wsV RX11 106 RX11 yX11_refuse wsX11_refuse) := goodIn_app (goodIn_of _ (by decide +kernel)) ggX11_count_X11_refuse
theorem dX11_count_0 : decode cX11_count 0 = .ok (.iload_n 1, 1) := by decide +kernel
theorem dX11_count_1 : decode cX11_count 1 = .ok (.iconst 0, 1) := by decide +kernel
theorem dX11_count_2 : decode cX11_count 2 = .ok (.iconst 5, 1) := by decide +kernel
theorem dX11_count_3 : decode cX11_count 3 = .ok (.invokestatic 102, 3) := by decide +kernel
theorem dX11_count_6 : decode cX11_count 6 = .ok (.ifCond .ne 10, 3) := by decide +kernel
theorem dX11_count_16 : decode cX11_count 16 = .ok (.aload_n 0, 1) := by decide +kernel
theorem dX11_count_17 : decode cX11_count 17 = .ok (.iload_n 1, 1) := by decide +kernel
theorem dX11_count_18 : decode cX11_count 18 = .ok (.invokevirtual 280, 3) := by decide +kernel
theorem dX11_count_21 : decode cX11_count 21 = .ok (.ireturn, 1) := by decide +kernel
theorem dX11_count_9 : decode cX11_count 9 = .ok (.aload_n 0, 1) := by decide +kernel
theorem dX11_count_10 : decode cX11_count 10 = .ok (.bipush (-2), 2) := by decide +kernel
theorem dX11_count_12 : decode cX11_count 12 = .ok (.invokevirtual 106, 3) := by decide +kernel
theorem dX11_count_15 : decode cX11_count 15 = .ok (.ireturn, 1) := by decide +kernel
set_option maxHeartbeats 4000000 in
set_option maxRecDepth 100000 in
theorem k_x_count (l : Launch) (dC : Nat → ClassId) (dI : Nat → Nat → Nat) (o : Nat) (aw : Nat) (bk : Nat) (ai : Nat) (ak : Nat) (sc : Nat) (rd : Nat) (fo : Nat) (tx : Nat) (ar : Nat) (atr : Nat) (ao : Nat) (rk0 : Nat) (rk1 : Nat) (rk2 : Nat) (rk3 : Nat) (eak : Nat) (cak0 : Nat) (cak1 : Nat) (cak2 : Nat) (cak3 : Nat) (cr : ClassId) (na : Int32) (sz : Nat) : Met l yX11_count wsX11_count ({ frames := 2, cells := 0, slots := 0, locals := 44 }) (va_Pc [.ref o, .int na] (fun U => U.heap.size = sz ∧ va_P (dC, dI) vwCl [(o, .inr (11, [.ref aw, .ref bk, .ref ai, .ref ak, .ref sc, .ref rd, .ref fo, .ref tx, .int 0, .ref ar, .ref atr, .ref ao])), (bk, .inr (0, [.ref rk0, .ref rk1, .ref rk2, .ref rk3, .ref eak, .int 0])), (rk0, .inr (6, [.int 1, .int 5, .ref cak0, .int 0])), (rk1, .inr (6, [.int 4, .int 5, .ref cak1, .int 0])), (rk2, .inr (6, [.int 4, .int 8, .ref cak2, .int 0])), (rk3, .inr (6, [.int 4, .int 6, .ref cak3, .int 0])), (ar, .inl (cr, 3, .inl (fun _ => 0)))] U.heap ∧ va_K (dC, dI) vwCl [(cr, .int)] U ∧ va_D (fun _ => True) [(o, .inr (11, [.ref aw, .ref bk, .ref ai, .ref ak, .ref sc, .ref rd, .ref fo, .ref tx, .int 0, .ref ar, .ref atr, .ref ao])), (bk, .inr (0, [.ref rk0, .ref rk1, .ref rk2, .ref rk3, .ref eak, .int 0])), (rk0, .inr (6, [.int 1, .int 5, .ref cak0, .int 0])), (rk1, .inr (6, [.int 4, .int 5, .ref cak1, .int 0])), (rk2, .inr (6, [.int 4, .int 8, .ref cak2, .int 0])), (rk3, .inr (6, [.int 4, .int 6, .ref cak3, .int 0])), (ar, .inl (cr, 3, .inl (fun _ => 0)))])) (va_Qi (fun (r : Int32) (_ : Unit) => r = (if 0 ≤ na ∧ na ≤ 5 then 0 else (-2))) (fun _ _ => True) (va_A [(o, .inr (11, [.ref aw, .ref bk, .ref ai, .ref ak, .ref sc, .ref rd, .ref fo, .ref tx, .int 0, .ref ar, .ref atr, .ref ao])), (bk, .inr (0, [.ref rk0, .ref rk1, .ref rk2, .ref rk3, .ref eak, .int 0])), (rk0, .inr (6, [.int 1, .int 5, .ref cak0, .int 0])), (rk1, .inr (6, [.int 4, .int 5, .ref cak1, .int 0])), (rk2, .inr (6, [.int 4, .int 8, .ref cak2, .int 0])), (rk3, .inr (6, [.int 4, .int 6, .ref cak3, .int 0])), (ar, .inl (cr, 3, .inl (fun _ => 0)))] sz)) 0 0 (va_A [(o, .inr (11, [.ref aw, .ref bk, .ref ai, .ref ak, .ref sc, .ref rd, .ref fo, .ref tx, .int 0, .ref ar, .ref atr, .ref ao])), (bk, .inr (0, [.ref rk0, .ref rk1, .ref rk2, .ref rk3, .ref eak, .int 0])), (rk0, .inr (6, [.int 1, .int 5, .ref cak0, .int 0])), (rk1, .inr (6, [.int 4, .int 5, .ref cak1, .int 0])), (rk2, .inr (6, [.int 4, .int 8, .ref cak2, .int 0])), (rk3, .inr (6, [.int 4, .int 6, .ref cak3, .int 0])), (ar, .inl (cr, 3, .inl (fun _ => 0)))] sz) := by
  refine Met.ofW (cc := cX11_count) (maxL := 2) (ret := (some .int)) (by decide) rfl ?_
  intro p e s m args below meth c s₁ B hml hv
  obtain ⟨rfl, hsz, hP, hK, hD0⟩ := hv
  have hx := B.exec
  have hb := B.bytes
  have hr := B.returns
  have hts := atoms_spec (ws := wsX11_count) B.pre
  have hown : s.vm.findClass RX11 = some m.cls := findClass_of_methodNamed B.named
  have hlocks := B.notSynchronized
  subst hsz
  have hD := hD0.self (sz := s.heap.size)
  generalize hAe : va_A [(o, .inr (11, [.ref aw, .ref bk, .ref ai, .ref ak, .ref sc, .ref rd, .ref fo, .ref tx, .int 0, .ref ar, .ref atr, .ref ao])), (bk, .inr (0, [.ref rk0, .ref rk1, .ref rk2, .ref rk3, .ref eak, .int 0])), (rk0, .inr (6, [.int 1, .int 5, .ref cak0, .int 0])), (rk1, .inr (6, [.int 4, .int 5, .ref cak1, .int 0])), (rk2, .inr (6, [.int 4, .int 8, .ref cak2, .int 0])), (rk3, .inr (6, [.int 4, .int 6, .ref cak3, .int 0])), (ar, .inl (cr, 3, .inl (fun _ => 0)))] s.heap.size = A at hD ⊢
  have hA : ∀ q : Nat, s.heap.size ≤ q → A q := fun q h => by rw [← hAe]; exact Or.inr h
  have hS : va_S A s.heap s.heap [] := va_S.rf
  have hP : va_P (dC, dI) vwCl [(o, .inr (11, [.ref aw, .ref bk, .ref ai, .ref ak, .ref sc, .ref rd, .ref fo, .ref tx, .int 0, .ref ar, .ref atr, .ref ao])), (bk, .inr (0, [.ref rk0, .ref rk1, .ref rk2, .ref rk3, .ref eak, .int 0])), (rk0, .inr (6, [.int 1, .int 5, .ref cak0, .int 0])), (rk1, .inr (6, [.int 4, .int 5, .ref cak1, .int 0])), (rk2, .inr (6, [.int 4, .int 8, .ref cak2, .int 0])), (rk3, .inr (6, [.int 4, .int 6, .ref cak3, .int 0])), (ar, .inl (cr, 3, .inl (fun _ => 0)))] s.heap := hP
  have hl := lv_entry ([.ref o, .int na]) (n := 2) (Nat.le_of_ble_eq_true rfl)
  rw [lg_entry_eq]
  generalize (lg_sl ([.ref o, .int na]) ++ List.replicate (2 - (lg_sl ([.ref o, .int na])).length) Slot.unset).toArray = ls at hl ⊢
  have hl : lv_has ls 2 [(0, .ref o), (1, .int na)] := hl
  refine lv_iload_n hx hb dX11_count_0 rfl (lv_at hl 1 rfl) ?_
  refine lv_iconst (v := 0) hx hb dX11_count_1 (by decide) ?_
  refine lv_iconst (v := 5) hx hb dX11_count_2 (by decide) ?_
  refine vp_callSi (va_Run.run (va_runS (As := [.int na, .int 0, .int 5]) (rest := []) ⟨hx, hb, hml, hown, hts⟩ (k_within l dC dI na 0 5) (va_cwS 3 hts gX11_count_X11_within rfl rfl rfl (by decide +kernel) ⟨Nat.le_of_ble_eq_true rfl, Nat.le_of_ble_eq_true rfl⟩) ⟨fun a U g mk q => ⟨q.1, trivial⟩, fun U hU hW => ⟨rfl, trivial⟩⟩ rfl rfl hl.1 rfl (lv_room (Nat.le_of_ble_eq_true rfl)) dX11_count_3 ⟨Nat.le_of_ble_eq_true rfl, Nat.le_of_ble_eq_true rfl⟩)) (fun r_1 hw_2 => ?_)
  by_cases hc_3 : 0 ≤ na ∧ na ≤ 5
  · obtain rfl : 1 = r_1 := (hw_2.trans (if_pos hc_3)).symm
    refine lv_if_ne (tgt := 16) hx hb dX11_count_6 (by decide) (fun c_4 => ?_) (fun c_4 => ?_)
    · refine lv_aload_n hx hb dX11_count_16 rfl (lv_at hl 0 rfl) ?_
      refine lv_iload_n hx hb dX11_count_17 rfl (lv_at hl 1 rfl) ?_
      have hPc_5 := hP.sub (ws' := [(o, .inr (11, [.ref aw, .ref bk, .ref ai, .ref ak, .ref sc, .ref rd, .ref fo, .ref tx, .int 0, .ref ar, .ref atr, .ref ao])), (bk, .inr (0, [.ref rk0, .ref rk1, .ref rk2, .ref rk3, .ref eak, .int 0])), (rk0, .inr (6, [.int 1, .int 5, .ref cak0, .int 0])), (rk1, .inr (6, [.int 4, .int 5, .ref cak1, .int 0])), (rk2, .inr (6, [.int 4, .int 8, .ref cak2, .int 0])), (rk3, .inr (6, [.int 4, .int 6, .ref cak3, .int 0]))]) [0, 1, 2, 3, 4, 5] rfl
      have hKc_6 := hK.sub (tys' := []) [] rfl
      refine vp_callSi (va_Run.run (va_runV (As := [.int na]) (rest := []) ⟨hx, hb, hml, hown, hts⟩ (k_howMany l dC dI o aw bk ai ak sc rd fo tx ar atr ao rk0 rk1 rk2 rk3 eak cak0 cak1 cak2 cak3 na hc_3) (cwV 1 hts gX11_count_X11_howMany rfl rfl rfl (by decide +kernel) ⟨Nat.le_of_ble_eq_true rfl, Nat.le_of_ble_eq_true rfl⟩) ⟨fun a U g mk q => by obtain ⟨q0, qP, qK⟩ := q; exact ⟨q0, qP, va_K.moved (u := U) (U := U.calling g mk a) (Vm.Alike.refl U.vm) qK⟩, va_recv hK hP (ci := 11) (q0 := 0) rfl rfl, fun U hU hW => ⟨rfl, by rw [hU]; exact hPc_5, va_K.moved hW.alike hKc_6⟩⟩ rfl rfl hl.1 rfl (lv_room (Nat.le_of_ble_eq_true rfl)) dX11_count_18 ⟨Nat.le_of_ble_eq_true rfl, Nat.le_of_ble_eq_true rfl⟩)) (fun r_7 hw_8 => ?_)
      obtain rfl : 0 = r_7 := hw_8.symm
      exact W.iret (v := 0) hx hb hr (fun t ht hW => ⟨⟨0, (), rfl, (if_pos hc_3).symm, trivial⟩, hS.F ht⟩) hS.2.2 dX11_count_21
    · exact absurd c_4 (by decide)
  · obtain rfl : 0 = r_1 := (hw_2.trans (if_neg hc_3)).symm
    refine lv_if_ne (tgt := 16) hx hb dX11_count_6 (by decide) (fun c_9 => ?_) (fun c_9 => ?_)
    · exact absurd c_9 (by decide)
    · refine lv_aload_n hx hb dX11_count_9 rfl (lv_at hl 0 rfl) ?_
      refine lv_bipush (v := (-2)) hx hb dX11_count_10 (by decide) ?_
      have hPc := hP.sub (ws' := [(o, .inr (11, [.ref aw, .ref bk, .ref ai, .ref ak, .ref sc, .ref rd, .ref fo, .ref tx, .int 0, .ref ar, .ref atr, .ref ao])), (ar, .inl (cr, 3, .inl (fun _ => 0)))]) [0, 6] rfl
      have hDc := hD.sub (ws' := [(o, .inr (11, [.ref aw, .ref bk, .ref ai, .ref ak, .ref sc, .ref rd, .ref fo, .ref tx, .int 0, .ref ar, .ref atr, .ref ao])), (ar, .inl (cr, 3, .inl (fun _ => 0)))]) [0, 6] (by decide) rfl
      have hKc := hK.sub (tys' := [(cr, .int)]) [0] rfl
      have hFc := va_free (wc := [(o, .inr (11, [.ref aw, .ref bk, .ref ai, .ref ak, .ref sc, .ref rd, .ref fo, .ref tx, .int 0, .ref ar, .ref atr, .ref ao])), (ar, .inl (cr, 3, .inl (fun _ => 0)))]) hD hS hA [0, 6] rfl
      refine va_calli (va_runV (As := [.int (-2)]) (rest := []) ⟨hx, hb, hml, hown, hts⟩ (k_refuse l dC dI o (.ref aw) (.ref bk) (.ref ai) (.ref ak) (.ref sc) (.ref rd) (.ref fo) (.ref tx) (.int 0) ar (.ref atr) (.ref ao) cr (fun _ => 0) (-2) s.heap.size) (cwV 1 hts gX11_count_X11_refuse rfl rfl rfl (by decide +kernel) ⟨Nat.le_of_ble_eq_true rfl, Nat.le_of_ble_eq_true rfl⟩) ⟨fun a U g mk q => by obtain ⟨q0, q1, qP, qK, qD⟩ := q; exact ⟨q0, q1, qP, va_K.moved (u := U) (U := U.calling g mk a) (Vm.Alike.refl U.vm) qK, qD⟩, va_recv hK hP (ci := 11) (q0 := 0) rfl rfl, fun U hU hW => ⟨rfl, by rw [hU], by rw [hU]; exact hPc, va_K.moved hW.alike hKc, hDc.weaken (fun _ _ _ _ => trivial)⟩⟩ rfl rfl hl.1 rfl (lv_room (Nat.le_of_ble_eq_true rfl)) dX11_count_12 ⟨Nat.le_of_ble_eq_true rfl, Nat.le_of_ble_eq_true rfl⟩) hS (fun q _ h => hFc q h) hFc (fun r_10 u_ t H1 locs ht hvm hw_11 hB hz1 hk1 hS => ?_)
      obtain ⟨hP, hD⟩ := va_join (wr := [(bk, .inr (0, [.ref rk0, .ref rk1, .ref rk2, .ref rk3, .ref eak, .int 0])), (rk0, .inr (6, [.int 1, .int 5, .ref cak0, .int 0])), (rk1, .inr (6, [.int 4, .int 5, .ref cak1, .int 0])), (rk2, .inr (6, [.int 4, .int 8, .ref cak2, .int 0])), (rk3, .inr (6, [.int 4, .int 6, .ref cak3, .int 0]))]) (w1 := []) hP hD [0, 6] [1, 2, 3, 4, 5] rfl rfl (by decide) (by decide) hk1 hFc tz_P0 tz_D0
      generalize H1 = H at hP hS ⊢
      have hP : va_P (dC, dI) vwCl [(bk, .inr (0, [.ref rk0, .ref rk1, .ref rk2, .ref rk3, .ref eak, .int 0])), (rk0, .inr (6, [.int 1, .int 5, .ref cak0, .int 0])), (rk1, .inr (6, [.int 4, .int 5, .ref cak1, .int 0])), (rk2, .inr (6, [.int 4, .int 8, .ref cak2, .int 0])), (rk3, .inr (6, [.int 4, .int 6, .ref cak3, .int 0]))] H := hP
      have hD : va_D A [(bk, .inr (0, [.ref rk0, .ref rk1, .ref rk2, .ref rk3, .ref eak, .int 0])), (rk0, .inr (6, [.int 1, .int 5, .ref cak0, .int 0])), (rk1, .inr (6, [.int 4, .int 5, .ref cak1, .int 0])), (rk2, .inr (6, [.int 4, .int 8, .ref cak2, .int 0])), (rk3, .inr (6, [.int 4, .int 6, .ref cak3, .int 0]))] := hD
      obtain rfl : (-2) = r_10 := hw_11.symm
      exact W.iret (v := (-2)) hx hb hr (fun t ht hW => ⟨⟨(-2), (), rfl, (if_neg hc_3).symm, trivial⟩, hS.F ht⟩) hS.2.2 dX11_count_15
set_option maxRecDepth 20000 in
theorem ggX11_digest_X11_howMany : GoodIn wsX11_digest wsX11_howMany := goodIn_r _ [13, 3, 4, 5, 6, 7, 14, 15, 16, 17, 18, 19, 20, 21, 22, 23, 24, 25, 26, 45, 46, 47, 48, 49, 50, 51, 52, 53, 54, 55, 56, 57, 58, 59, 60, 61, 62, 63, 64, 65, 66] (by decide +kernel) (by decide +kernel)
set_option maxRecDepth 20000 in
theorem gX11_digest_X11_howMany : GoodIn wsX11_digest (wsV RX11 280 RX11 yX11_howMany wsX11_howMany) := goodIn_app (goodIn_of _ (by decide +kernel)) ggX11_digest_X11_howMany
set_option maxRecDepth 20000 in
theorem ggX11_digest_X6_mixInto : GoodIn wsX11_digest wsX6_mixInto := goodIn_r _ [30, 20, 31, 32, 33, 63, 64, 65, 66] (by decide +kernel) (by decide +kernel)
set_option maxRecDepth 20000 in
theorem gX11_digest_X6_mixInto : GoodIn wsX11_digest (wsV RX11 287 RX6 yX6_mixInto wsX6_mixInto) := goodIn_app (goodIn_of _ (by decide +kernel)) ggX11_digest_X6_mixInto
set_option maxRecDepth 20000 in
theorem ggX11_digest_X2_above : GoodIn wsX11_digest wsX2_above := goodIn_r _ [38, 39, 67, 68] (by decide +kernel) (by decide +kernel)
set_option maxRecDepth 20000 in
theorem gX11_digest_X2_above : GoodIn wsX11_digest (wsV RX11 271 RX2 yX2_above wsX2_above) := goodIn_app (goodIn_of _ (by decide +kernel)) ggX11_digest_X2_above
set_option maxRecDepth 20000 in
theorem ggX11_digest_X2_below : GoodIn wsX11_digest wsX2_below := goodIn_r _ [43, 44, 67, 68] (by decide +kernel) (by decide +kernel)
set_option maxRecDepth 20000 in
theorem gX11_digest_X2_below : GoodIn wsX11_digest (wsV RX11 274 RX2 yX2_below wsX2_below) := goodIn_app (goodIn_of _ (by decide +kernel)) ggX11_digest_X2_below
theorem dX11_digest_0 : decode cX11_digest 0 = .ok (.ldc2_w 283, 3) := by decide +kernel
theorem dX11_digest_3 : decode cX11_digest 3 = .ok (.lstore_n 1, 1) := by decide +kernel
theorem dX11_digest_4 : decode cX11_digest 4 = .ok (.iconst 0, 1) := by decide +kernel
theorem dX11_digest_5 : decode cX11_digest 5 = .ok (.istore_n 3, 1) := by decide +kernel
theorem dX11_digest_6 : decode cX11_digest 6 = .ok (.iload_n 3, 1) := by decide +kernel
theorem dX11_digest_7 : decode cX11_digest 7 = .ok (.iconst 5, 1) := by decide +kernel
theorem dX11_digest_8 : decode cX11_digest 8 = .ok (.if_icmp .gt 22, 3) := by decide +kernel
theorem dX11_digest_11 : decode cX11_digest 11 = .ok (.ldc2_w 285, 3) := by decide +kernel
theorem dX11_digest_14 : decode cX11_digest 14 = .ok (.lload_n 1, 1) := by decide +kernel
theorem dX11_digest_15 : decode cX11_digest 15 = .ok (.lmul, 1) := by decide +kernel
theorem dX11_digest_16 : decode cX11_digest 16 = .ok (.aload_n 0, 1) := by decide +kernel
theorem dX11_digest_17 : decode cX11_digest 17 = .ok (.iload_n 3, 1) := by decide +kernel
theorem dX11_digest_18 : decode cX11_digest 18 = .ok (.invokevirtual 280, 3) := by decide +kernel
theorem dX11_digest_21 : decode cX11_digest 21 = .ok (.i2l, 1) := by decide +kernel
theorem dX11_digest_22 : decode cX11_digest 22 = .ok (.ladd, 1) := by decide +kernel
theorem dX11_digest_23 : decode cX11_digest 23 = .ok (.lstore_n 1, 1) := by decide +kernel
theorem dX11_digest_24 : decode cX11_digest 24 = .ok (.iinc 3 1, 3) := by decide +kernel
theorem dX11_digest_27 : decode cX11_digest 27 = .ok (.goto (-21), 3) := by decide +kernel
theorem dX11_digest_30 : decode cX11_digest 30 = .ok (.aload_n 0, 1) := by decide +kernel
theorem dX11_digest_31 : decode cX11_digest 31 = .ok (.getfield 34, 3) := by decide +kernel
theorem dX11_digest_34 : decode cX11_digest 34 = .ok (.getfield 110, 3) := by decide +kernel
theorem dX11_digest_37 : decode cX11_digest 37 = .ok (.lload_n 1, 1) := by decide +kernel
theorem dX11_digest_38 : decode cX11_digest 38 = .ok (.invokevirtual 287, 3) := by decide +kernel
theorem dX11_digest_41 : decode cX11_digest 41 = .ok (.lstore_n 1, 1) := by decide +kernel
theorem dX11_digest_42 : decode cX11_digest 42 = .ok (.aload_n 0, 1) := by decide +kernel
theorem dX11_digest_43 : decode cX11_digest 43 = .ok (.getfield 34, 3) := by decide +kernel
theorem dX11_digest_46 : decode cX11_digest 46 = .ok (.getfield 85, 3) := by decide +kernel
theorem dX11_digest_49 : decode cX11_digest 49 = .ok (.lload_n 1, 1) := by decide +kernel
theorem dX11_digest_50 : decode cX11_digest 50 = .ok (.invokevirtual 287, 3) := by decide +kernel
theorem dX11_digest_53 : decode cX11_digest 53 = .ok (.lstore_n 1, 1) := by decide +kernel
theorem dX11_digest_54 : decode cX11_digest 54 = .ok (.aload_n 0, 1) := by decide +kernel
theorem dX11_digest_55 : decode cX11_digest 55 = .ok (.getfield 34, 3) := by decide +kernel
theorem dX11_digest_58 : decode cX11_digest 58 = .ok (.getfield 138, 3) := by decide +kernel
theorem dX11_digest_61 : decode cX11_digest 61 = .ok (.lload_n 1, 1) := by decide +kernel
theorem dX11_digest_62 : decode cX11_digest 62 = .ok (.invokevirtual 287, 3) := by decide +kernel
theorem dX11_digest_65 : decode cX11_digest 65 = .ok (.lstore_n 1, 1) := by decide +kernel
theorem dX11_digest_66 : decode cX11_digest 66 = .ok (.aload_n 0, 1) := by decide +kernel
theorem dX11_digest_67 : decode cX11_digest 67 = .ok (.getfield 34, 3) := by decide +kernel
theorem dX11_digest_70 : decode cX11_digest 70 = .ok (.getfield 227, 3) := by decide +kernel
theorem dX11_digest_73 : decode cX11_digest 73 = .ok (.lload_n 1, 1) := by decide +kernel
theorem dX11_digest_74 : decode cX11_digest 74 = .ok (.invokevirtual 287, 3) := by decide +kernel
theorem dX11_digest_77 : decode cX11_digest 77 = .ok (.lstore_n 1, 1) := by decide +kernel
theorem dX11_digest_78 : decode cX11_digest 78 = .ok (.ldc2_w 285, 3) := by decide +kernel
theorem dX11_digest_81 : decode cX11_digest 81 = .ok (.lload_n 1, 1) := by decide +kernel
theorem dX11_digest_82 : decode cX11_digest 82 = .ok (.lmul, 1) := by decide +kernel
theorem dX11_digest_83 : decode cX11_digest 83 = .ok (.aload_n 0, 1) := by decide +kernel
theorem dX11_digest_84 : decode cX11_digest 84 = .ok (.getfield 63, 3) := by decide +kernel
theorem dX11_digest_87 : decode cX11_digest 87 = .ok (.invokevirtual 271, 3) := by decide +kernel
theorem dX11_digest_90 : decode cX11_digest 90 = .ok (.ladd, 1) := by decide +kernel
theorem dX11_digest_91 : decode cX11_digest 91 = .ok (.lstore_n 1, 1) := by decide +kernel
theorem dX11_digest_92 : decode cX11_digest 92 = .ok (.ldc2_w 285, 3) := by decide +kernel
theorem dX11_digest_95 : decode cX11_digest 95 = .ok (.lload_n 1, 1) := by decide +kernel
theorem dX11_digest_96 : decode cX11_digest 96 = .ok (.lmul, 1) := by decide +kernel
theorem dX11_digest_97 : decode cX11_digest 97 = .ok (.aload_n 0, 1) := by decide +kernel
theorem dX11_digest_98 : decode cX11_digest 98 = .ok (.getfield 63, 3) := by decide +kernel
theorem dX11_digest_101 : decode cX11_digest 101 = .ok (.invokevirtual 274, 3) := by decide +kernel
theorem dX11_digest_104 : decode cX11_digest 104 = .ok (.ladd, 1) := by decide +kernel
theorem dX11_digest_105 : decode cX11_digest 105 = .ok (.lreturn, 1) := by decide +kernel
set_option maxRecDepth 20000 in
theorem iw_k_x_digest_X11 : ∀ w ∈ wsX110, w ∈ wsX11_digest := by decide +kernel
set_option maxRecDepth 20000 in
theorem iw_k_x_digest_X0 : ∀ w ∈ wsX00, w ∈ wsX11_digest := by decide +kernel
set_option maxHeartbeats 4000000 in
set_option maxRecDepth 100000 in
theorem k_x_digest (l : Launch) (dC : Nat → ClassId) (dI : Nat → Nat → Nat) (o : Nat) (aw : Nat) (bk : Nat) (ai : Nat) (ak : Nat) (sc : Nat) (rd : Nat) (fo : Nat) (tx : Nat) (ar : Nat) (atr : Nat) (ao : Nat) (rk0 : Nat) (rk1 : Nat) (rk2 : Nat) (rk3 : Nat) (eak : Nat) (cak0 : Nat) (cak1 : Nat) (cak2 : Nat) (cak3 : Nat) (sz : Nat) : Met l yX11_digest wsX11_digest ({ frames := 2, cells := 0, slots := 0, locals := 41 }) (va_Pc [.ref o] (fun U => U.heap.size = sz ∧ va_P (dC, dI) vwCl [(o, .inr (11, [.ref aw, .ref bk, .ref ai, .ref ak, .ref sc, .ref rd, .ref fo, .ref tx, .int 0, .ref ar, .ref atr, .ref ao])), (bk, .inr (0, [.ref rk0, .ref rk1, .ref rk2, .ref rk3, .ref eak, .int 0])), (rk0, .inr (6, [.int 1, .int 5, .ref cak0, .int 0])), (rk1, .inr (6, [.int 4, .int 5, .ref cak1, .int 0])), (rk2, .inr (6, [.int 4, .int 8, .ref cak2, .int 0])), (rk3, .inr (6, [.int 4, .int 6, .ref cak3, .int 0])), (fo, .inr (2, [.long 0, .long 1]))] U.heap ∧ va_K (dC, dI) vwCl [] U ∧ va_D (fun _ => True) [(o, .inr (11, [.ref aw, .ref bk, .ref ai, .ref ak, .ref sc, .ref rd, .ref fo, .ref tx, .int 0, .ref ar, .ref atr, .ref ao])), (bk, .inr (0, [.ref rk0, .ref rk1, .ref rk2, .ref rk3, .ref eak, .int 0])), (rk0, .inr (6, [.int 1, .int 5, .ref cak0, .int 0])), (rk1, .inr (6, [.int 4, .int 5, .ref cak1, .int 0])), (rk2, .inr (6, [.int 4, .int 8, .ref cak2, .int 0])), (rk3, .inr (6, [.int 4, .int 6, .ref cak3, .int 0])), (fo, .inr (2, [.long 0, .long 1]))])) (va_Ql (fun (r : Int64) (_ : Unit) => r = 799158902082218) (fun _ _ => True) (va_A [(o, .inr (11, [.ref aw, .ref bk, .ref ai, .ref ak, .ref sc, .ref rd, .ref fo, .ref tx, .int 0, .ref ar, .ref atr, .ref ao])), (bk, .inr (0, [.ref rk0, .ref rk1, .ref rk2, .ref rk3, .ref eak, .int 0])), (rk0, .inr (6, [.int 1, .int 5, .ref cak0, .int 0])), (rk1, .inr (6, [.int 4, .int 5, .ref cak1, .int 0])), (rk2, .inr (6, [.int 4, .int 8, .ref cak2, .int 0])), (rk3, .inr (6, [.int 4, .int 6, .ref cak3, .int 0])), (fo, .inr (2, [.long 0, .long 1]))] sz)) 0 0 (va_A [(o, .inr (11, [.ref aw, .ref bk, .ref ai, .ref ak, .ref sc, .ref rd, .ref fo, .ref tx, .int 0, .ref ar, .ref atr, .ref ao])), (bk, .inr (0, [.ref rk0, .ref rk1, .ref rk2, .ref rk3, .ref eak, .int 0])), (rk0, .inr (6, [.int 1, .int 5, .ref cak0, .int 0])), (rk1, .inr (6, [.int 4, .int 5, .ref cak1, .int 0])), (rk2, .inr (6, [.int 4, .int 8, .ref cak2, .int 0])), (rk3, .inr (6, [.int 4, .int 6, .ref cak3, .int 0])), (fo, .inr (2, [.long 0, .long 1]))] sz) := by
  refine Met.ofW (cc := cX11_digest) (maxL := 4) (ret := (some .long)) (by decide) rfl ?_
  intro p e s m args below meth c s₁ B hml hv
  obtain ⟨rfl, hsz, hP, hK, hD0⟩ := hv
  have hx := B.exec
  have hb := B.bytes
  have hr := B.returns
  have hts := atoms_spec (ws := wsX11_digest) B.pre
  have hown : s.vm.findClass RX11 = some m.cls := findClass_of_methodNamed B.named
  have hlocks := B.notSynchronized
  subst hsz
  have hD := hD0.self (sz := s.heap.size)
  generalize hAe : va_A [(o, .inr (11, [.ref aw, .ref bk, .ref ai, .ref ak, .ref sc, .ref rd, .ref fo, .ref tx, .int 0, .ref ar, .ref atr, .ref ao])), (bk, .inr (0, [.ref rk0, .ref rk1, .ref rk2, .ref rk3, .ref eak, .int 0])), (rk0, .inr (6, [.int 1, .int 5, .ref cak0, .int 0])), (rk1, .inr (6, [.int 4, .int 5, .ref cak1, .int 0])), (rk2, .inr (6, [.int 4, .int 8, .ref cak2, .int 0])), (rk3, .inr (6, [.int 4, .int 6, .ref cak3, .int 0])), (fo, .inr (2, [.long 0, .long 1]))] s.heap.size = A at hD ⊢
  have hA : ∀ q : Nat, s.heap.size ≤ q → A q := fun q h => by rw [← hAe]; exact Or.inr h
  have hS : va_S A s.heap s.heap [] := va_S.rf
  have hP : va_P (dC, dI) vwCl [(o, .inr (11, [.ref aw, .ref bk, .ref ai, .ref ak, .ref sc, .ref rd, .ref fo, .ref tx, .int 0, .ref ar, .ref atr, .ref ao])), (bk, .inr (0, [.ref rk0, .ref rk1, .ref rk2, .ref rk3, .ref eak, .int 0])), (rk0, .inr (6, [.int 1, .int 5, .ref cak0, .int 0])), (rk1, .inr (6, [.int 4, .int 5, .ref cak1, .int 0])), (rk2, .inr (6, [.int 4, .int 8, .ref cak2, .int 0])), (rk3, .inr (6, [.int 4, .int 6, .ref cak3, .int 0])), (fo, .inr (2, [.long 0, .long 1]))] s.heap := hP
  have hl := lv_entry ([.ref o]) (n := 4) (Nat.le_of_ble_eq_true rfl)
  rw [lg_entry_eq]
  generalize (lg_sl ([.ref o]) ++ List.replicate (4 - (lg_sl ([.ref o])).length) Slot.unset).toArray = ls at hl ⊢
  have hl : lv_has ls 4 [(0, .ref o)] := hl
  refine lv_ldc2 hx hb hown (hts (.constantLong RX11 283 (937)) (by decide +kernel)) dX11_digest_0 ?_
  refine lv_lstore_n (lv' := [(1, .long 937), (0, .ref o)]) hx hb dX11_digest_3 rfl hl (by decide) rfl (fun ls hl => ?_)
  refine lv_iconst (v := 0) hx hb dX11_digest_4 (by decide) ?_
  refine lv_istore_n (lv' := [(3, .int 0), (1, .long 937), (0, .ref o)]) hx hb dX11_digest_5 rfl hl (by decide) rfl (fun ls hl => ?_)
  refine lv_iload_n hx hb dX11_digest_6 rfl (lv_at hl 0 rfl) ?_
  refine lv_iconst (v := 5) hx hb dX11_digest_7 (by decide) ?_
  refine lv_icmp_gt (tgt := 30) hx hb dX11_digest_8 (by decide) (fun c_1 => ?_) (fun c_1 => ?_)
  · exact absurd c_1 (by decide)
  · refine lv_ldc2 hx hb hown (hts (.constantLong RX11 285 (31)) (by decide +kernel)) dX11_digest_11 ?_
    refine lv_lload_n hx hb dX11_digest_14 rfl (lv_at hl 1 rfl) ?_
    refine lv_lmul hx hb dX11_digest_15 ?_
    refine tz_l 29047 (by decide) ?_
    refine lv_aload_n hx hb dX11_digest_16 rfl (lv_at hl 2 rfl) ?_
    refine lv_iload_n hx hb dX11_digest_17 rfl (lv_at hl 0 rfl) ?_
    have hPc_2 := hP.sub (ws' := [(o, .inr (11, [.ref aw, .ref bk, .ref ai, .ref ak, .ref sc, .ref rd, .ref fo, .ref tx, .int 0, .ref ar, .ref atr, .ref ao])), (bk, .inr (0, [.ref rk0, .ref rk1, .ref rk2, .ref rk3, .ref eak, .int 0])), (rk0, .inr (6, [.int 1, .int 5, .ref cak0, .int 0])), (rk1, .inr (6, [.int 4, .int 5, .ref cak1, .int 0])), (rk2, .inr (6, [.int 4, .int 8, .ref cak2, .int 0])), (rk3, .inr (6, [.int 4, .int 6, .ref cak3, .int 0]))]) [0, 1, 2, 3, 4, 5] rfl
    have hKc_3 := hK.sub (tys' := []) [] rfl
    refine vp_callSi (va_Run.run (va_runV (As := [.int 0]) (rest := [.long 29047]) ⟨hx, hb, hml, hown, hts⟩ (k_howMany l dC dI o aw bk ai ak sc rd fo tx ar atr ao rk0 rk1 rk2 rk3 eak cak0 cak1 cak2 cak3 0 (by decide)) (cwV 1 hts gX11_digest_X11_howMany rfl rfl rfl (by decide +kernel) ⟨Nat.le_of_ble_eq_true rfl, Nat.le_of_ble_eq_true rfl⟩) ⟨fun a U g mk q => by obtain ⟨q0, qP, qK⟩ := q; exact ⟨q0, qP, va_K.moved (u := U) (U := U.calling g mk a) (Vm.Alike.refl U.vm) qK⟩, va_recv hK hP (ci := 11) (q0 := 0) rfl rfl, fun U hU hW => ⟨rfl, by rw [hU]; exact hPc_2, va_K.moved hW.alike hKc_3⟩⟩ rfl rfl hl.1 rfl (lv_room (Nat.le_of_ble_eq_true rfl)) dX11_digest_18 ⟨Nat.le_of_ble_eq_true rfl, Nat.le_of_ble_eq_true rfl⟩)) (fun r_4 hw_5 => ?_)
    obtain rfl : 0 = r_4 := hw_5.symm
    refine lv_i2l (v := 0) hx hb dX11_digest_21 (by decide) ?_
    refine lv_ladd hx hb dX11_digest_22 ?_
    refine tz_l 29047 (by decide) ?_
    refine lv_lstore_n (lv' := [(1, .long 29047), (3, .int 0), (0, .ref o)]) hx hb dX11_digest_23 rfl hl (by decide) rfl (fun ls hl => ?_)
    refine lv_iinc (v := 1) (lv' := [(3, .int 1), (1, .long 29047), (0, .ref o)]) hx hb dX11_digest_24 hl (k := 1) rfl (by decide) (by decide) rfl (fun ls hl => ?_)
    refine lv_goto (tgt := 6) hx hb dX11_digest_27 (by decide) ?_
    refine lv_iload_n hx hb dX11_digest_6 rfl (lv_at hl 0 rfl) ?_
    refine lv_iconst (v := 5) hx hb dX11_digest_7 (by decide) ?_
    refine lv_icmp_gt (tgt := 30) hx hb dX11_digest_8 (by decide) (fun c_6 => ?_) (fun c_6 => ?_)
    · exact absurd c_6 (by decide)
    · refine lv_ldc2 hx hb hown (hts (.constantLong RX11 285 (31)) (by decide +kernel)) dX11_digest_11 ?_
      refine lv_lload_n hx hb dX11_digest_14 rfl (lv_at hl 1 rfl) ?_
      refine lv_lmul hx hb dX11_digest_15 ?_
      refine tz_l 900457 (by decide) ?_
      refine lv_aload_n hx hb dX11_digest_16 rfl (lv_at hl 2 rfl) ?_
      refine lv_iload_n hx hb dX11_digest_17 rfl (lv_at hl 0 rfl) ?_
      have hPc_7 := hP.sub (ws' := [(o, .inr (11, [.ref aw, .ref bk, .ref ai, .ref ak, .ref sc, .ref rd, .ref fo, .ref tx, .int 0, .ref ar, .ref atr, .ref ao])), (bk, .inr (0, [.ref rk0, .ref rk1, .ref rk2, .ref rk3, .ref eak, .int 0])), (rk0, .inr (6, [.int 1, .int 5, .ref cak0, .int 0])), (rk1, .inr (6, [.int 4, .int 5, .ref cak1, .int 0])), (rk2, .inr (6, [.int 4, .int 8, .ref cak2, .int 0])), (rk3, .inr (6, [.int 4, .int 6, .ref cak3, .int 0]))]) [0, 1, 2, 3, 4, 5] rfl
      have hKc_8 := hK.sub (tys' := []) [] rfl
      refine vp_callSi (va_Run.run (va_runV (As := [.int 1]) (rest := [.long 900457]) ⟨hx, hb, hml, hown, hts⟩ (k_howMany l dC dI o aw bk ai ak sc rd fo tx ar atr ao rk0 rk1 rk2 rk3 eak cak0 cak1 cak2 cak3 1 (by decide)) (cwV 1 hts gX11_digest_X11_howMany rfl rfl rfl (by decide +kernel) ⟨Nat.le_of_ble_eq_true rfl, Nat.le_of_ble_eq_true rfl⟩) ⟨fun a U g mk q => by obtain ⟨q0, qP, qK⟩ := q; exact ⟨q0, qP, va_K.moved (u := U) (U := U.calling g mk a) (Vm.Alike.refl U.vm) qK⟩, va_recv hK hP (ci := 11) (q0 := 0) rfl rfl, fun U hU hW => ⟨rfl, by rw [hU]; exact hPc_7, va_K.moved hW.alike hKc_8⟩⟩ rfl rfl hl.1 rfl (lv_room (Nat.le_of_ble_eq_true rfl)) dX11_digest_18 ⟨Nat.le_of_ble_eq_true rfl, Nat.le_of_ble_eq_true rfl⟩)) (fun r_9 hw_10 => ?_)
      obtain rfl : 0 = r_9 := hw_10.symm
      refine lv_i2l (v := 0) hx hb dX11_digest_21 (by decide) ?_
      refine lv_ladd hx hb dX11_digest_22 ?_
      refine tz_l 900457 (by decide) ?_
      refine lv_lstore_n (lv' := [(1, .long 900457), (3, .int 1), (0, .ref o)]) hx hb dX11_digest_23 rfl hl (by decide) rfl (fun ls hl => ?_)
      refine lv_iinc (v := 2) (lv' := [(3, .int 2), (1, .long 900457), (0, .ref o)]) hx hb dX11_digest_24 hl (k := 1) rfl (by decide) (by decide) rfl (fun ls hl => ?_)
      refine lv_goto (tgt := 6) hx hb dX11_digest_27 (by decide) ?_
      refine lv_iload_n hx hb dX11_digest_6 rfl (lv_at hl 0 rfl) ?_
      refine lv_iconst (v := 5) hx hb dX11_digest_7 (by decide) ?_
      refine lv_icmp_gt (tgt := 30) hx hb dX11_digest_8 (by decide) (fun c_11 => ?_) (fun c_11 => ?_)
      · exact absurd c_11 (by decide)
      · refine lv_ldc2 hx hb hown (hts (.constantLong RX11 285 (31)) (by decide +kernel)) dX11_digest_11 ?_
        refine lv_lload_n hx hb dX11_digest_14 rfl (lv_at hl 1 rfl) ?_
        refine lv_lmul hx hb dX11_digest_15 ?_
        refine tz_l 27914167 (by decide) ?_
        refine lv_aload_n hx hb dX11_digest_16 rfl (lv_at hl 2 rfl) ?_
        refine lv_iload_n hx hb dX11_digest_17 rfl (lv_at hl 0 rfl) ?_
        have hPc_12 := hP.sub (ws' := [(o, .inr (11, [.ref aw, .ref bk, .ref ai, .ref ak, .ref sc, .ref rd, .ref fo, .ref tx, .int 0, .ref ar, .ref atr, .ref ao])), (bk, .inr (0, [.ref rk0, .ref rk1, .ref rk2, .ref rk3, .ref eak, .int 0])), (rk0, .inr (6, [.int 1, .int 5, .ref cak0, .int 0])), (rk1, .inr (6, [.int 4, .int 5, .ref cak1, .int 0])), (rk2, .inr (6, [.int 4, .int 8, .ref cak2, .int 0])), (rk3, .inr (6, [.int 4, .int 6, .ref cak3, .int 0]))]) [0, 1, 2, 3, 4, 5] rfl
        have hKc_13 := hK.sub (tys' := []) [] rfl
        refine vp_callSi (va_Run.run (va_runV (As := [.int 2]) (rest := [.long 27914167]) ⟨hx, hb, hml, hown, hts⟩ (k_howMany l dC dI o aw bk ai ak sc rd fo tx ar atr ao rk0 rk1 rk2 rk3 eak cak0 cak1 cak2 cak3 2 (by decide)) (cwV 1 hts gX11_digest_X11_howMany rfl rfl rfl (by decide +kernel) ⟨Nat.le_of_ble_eq_true rfl, Nat.le_of_ble_eq_true rfl⟩) ⟨fun a U g mk q => by obtain ⟨q0, qP, qK⟩ := q; exact ⟨q0, qP, va_K.moved (u := U) (U := U.calling g mk a) (Vm.Alike.refl U.vm) qK⟩, va_recv hK hP (ci := 11) (q0 := 0) rfl rfl, fun U hU hW => ⟨rfl, by rw [hU]; exact hPc_12, va_K.moved hW.alike hKc_13⟩⟩ rfl rfl hl.1 rfl (lv_room (Nat.le_of_ble_eq_true rfl)) dX11_digest_18 ⟨Nat.le_of_ble_eq_true rfl, Nat.le_of_ble_eq_true rfl⟩)) (fun r_14 hw_15 => ?_)
        obtain rfl : 0 = r_14 := hw_15.symm
        refine lv_i2l (v := 0) hx hb dX11_digest_21 (by decide) ?_
        refine lv_ladd hx hb dX11_digest_22 ?_
        refine tz_l 27914167 (by decide) ?_
        refine lv_lstore_n (lv' := [(1, .long 27914167), (3, .int 2), (0, .ref o)]) hx hb dX11_digest_23 rfl hl (by decide) rfl (fun ls hl => ?_)
        refine lv_iinc (v := 3) (lv' := [(3, .int 3), (1, .long 27914167), (0, .ref o)]) hx hb dX11_digest_24 hl (k := 1) rfl (by decide) (by decide) rfl (fun ls hl => ?_)
        refine lv_goto (tgt := 6) hx hb dX11_digest_27 (by decide) ?_
        refine lv_iload_n hx hb dX11_digest_6 rfl (lv_at hl 0 rfl) ?_
        refine lv_iconst (v := 5) hx hb dX11_digest_7 (by decide) ?_
        refine lv_icmp_gt (tgt := 30) hx hb dX11_digest_8 (by decide) (fun c_16 => ?_) (fun c_16 => ?_)
        · exact absurd c_16 (by decide)
        · refine lv_ldc2 hx hb hown (hts (.constantLong RX11 285 (31)) (by decide +kernel)) dX11_digest_11 ?_
          refine lv_lload_n hx hb dX11_digest_14 rfl (lv_at hl 1 rfl) ?_
          refine lv_lmul hx hb dX11_digest_15 ?_
          refine tz_l 865339177 (by decide) ?_
          refine lv_aload_n hx hb dX11_digest_16 rfl (lv_at hl 2 rfl) ?_
          refine lv_iload_n hx hb dX11_digest_17 rfl (lv_at hl 0 rfl) ?_
          have hPc_17 := hP.sub (ws' := [(o, .inr (11, [.ref aw, .ref bk, .ref ai, .ref ak, .ref sc, .ref rd, .ref fo, .ref tx, .int 0, .ref ar, .ref atr, .ref ao])), (bk, .inr (0, [.ref rk0, .ref rk1, .ref rk2, .ref rk3, .ref eak, .int 0])), (rk0, .inr (6, [.int 1, .int 5, .ref cak0, .int 0])), (rk1, .inr (6, [.int 4, .int 5, .ref cak1, .int 0])), (rk2, .inr (6, [.int 4, .int 8, .ref cak2, .int 0])), (rk3, .inr (6, [.int 4, .int 6, .ref cak3, .int 0]))]) [0, 1, 2, 3, 4, 5] rfl
          have hKc_18 := hK.sub (tys' := []) [] rfl
          refine vp_callSi (va_Run.run (va_runV (As := [.int 3]) (rest := [.long 865339177]) ⟨hx, hb, hml, hown, hts⟩ (k_howMany l dC dI o aw bk ai ak sc rd fo tx ar atr ao rk0 rk1 rk2 rk3 eak cak0 cak1 cak2 cak3 3 (by decide)) (cwV 1 hts gX11_digest_X11_howMany rfl rfl rfl (by decide +kernel) ⟨Nat.le_of_ble_eq_true rfl, Nat.le_of_ble_eq_true rfl⟩) ⟨fun a U g mk q => by obtain ⟨q0, qP, qK⟩ := q; exact ⟨q0, qP, va_K.moved (u := U) (U := U.calling g mk a) (Vm.Alike.refl U.vm) qK⟩, va_recv hK hP (ci := 11) (q0 := 0) rfl rfl, fun U hU hW => ⟨rfl, by rw [hU]; exact hPc_17, va_K.moved hW.alike hKc_18⟩⟩ rfl rfl hl.1 rfl (lv_room (Nat.le_of_ble_eq_true rfl)) dX11_digest_18 ⟨Nat.le_of_ble_eq_true rfl, Nat.le_of_ble_eq_true rfl⟩)) (fun r_19 hw_20 => ?_)
          obtain rfl : 0 = r_19 := hw_20.symm
          refine lv_i2l (v := 0) hx hb dX11_digest_21 (by decide) ?_
          refine lv_ladd hx hb dX11_digest_22 ?_
          refine tz_l 865339177 (by decide) ?_
          refine lv_lstore_n (lv' := [(1, .long 865339177), (3, .int 3), (0, .ref o)]) hx hb dX11_digest_23 rfl hl (by decide) rfl (fun ls hl => ?_)
          refine lv_iinc (v := 4) (lv' := [(3, .int 4), (1, .long 865339177), (0, .ref o)]) hx hb dX11_digest_24 hl (k := 1) rfl (by decide) (by decide) rfl (fun ls hl => ?_)
          refine lv_goto (tgt := 6) hx hb dX11_digest_27 (by decide) ?_
          refine lv_iload_n hx hb dX11_digest_6 rfl (lv_at hl 0 rfl) ?_
          refine lv_iconst (v := 5) hx hb dX11_digest_7 (by decide) ?_
          refine lv_icmp_gt (tgt := 30) hx hb dX11_digest_8 (by decide) (fun c_21 => ?_) (fun c_21 => ?_)
          · exact absurd c_21 (by decide)
          · refine lv_ldc2 hx hb hown (hts (.constantLong RX11 285 (31)) (by decide +kernel)) dX11_digest_11 ?_
            refine lv_lload_n hx hb dX11_digest_14 rfl (lv_at hl 1 rfl) ?_
            refine lv_lmul hx hb dX11_digest_15 ?_
            refine tz_l 26825514487 (by decide) ?_
            refine lv_aload_n hx hb dX11_digest_16 rfl (lv_at hl 2 rfl) ?_
            refine lv_iload_n hx hb dX11_digest_17 rfl (lv_at hl 0 rfl) ?_
            have hPc_22 := hP.sub (ws' := [(o, .inr (11, [.ref aw, .ref bk, .ref ai, .ref ak, .ref sc, .ref rd, .ref fo, .ref tx, .int 0, .ref ar, .ref atr, .ref ao])), (bk, .inr (0, [.ref rk0, .ref rk1, .ref rk2, .ref rk3, .ref eak, .int 0])), (rk0, .inr (6, [.int 1, .int 5, .ref cak0, .int 0])), (rk1, .inr (6, [.int 4, .int 5, .ref cak1, .int 0])), (rk2, .inr (6, [.int 4, .int 8, .ref cak2, .int 0])), (rk3, .inr (6, [.int 4, .int 6, .ref cak3, .int 0]))]) [0, 1, 2, 3, 4, 5] rfl
            have hKc_23 := hK.sub (tys' := []) [] rfl
            refine vp_callSi (va_Run.run (va_runV (As := [.int 4]) (rest := [.long 26825514487]) ⟨hx, hb, hml, hown, hts⟩ (k_howMany l dC dI o aw bk ai ak sc rd fo tx ar atr ao rk0 rk1 rk2 rk3 eak cak0 cak1 cak2 cak3 4 (by decide)) (cwV 1 hts gX11_digest_X11_howMany rfl rfl rfl (by decide +kernel) ⟨Nat.le_of_ble_eq_true rfl, Nat.le_of_ble_eq_true rfl⟩) ⟨fun a U g mk q => by obtain ⟨q0, qP, qK⟩ := q; exact ⟨q0, qP, va_K.moved (u := U) (U := U.calling g mk a) (Vm.Alike.refl U.vm) qK⟩, va_recv hK hP (ci := 11) (q0 := 0) rfl rfl, fun U hU hW => ⟨rfl, by rw [hU]; exact hPc_22, va_K.moved hW.alike hKc_23⟩⟩ rfl rfl hl.1 rfl (lv_room (Nat.le_of_ble_eq_true rfl)) dX11_digest_18 ⟨Nat.le_of_ble_eq_true rfl, Nat.le_of_ble_eq_true rfl⟩)) (fun r_24 hw_25 => ?_)
            obtain rfl : 0 = r_24 := hw_25.symm
            refine lv_i2l (v := 0) hx hb dX11_digest_21 (by decide) ?_
            refine lv_ladd hx hb dX11_digest_22 ?_
            refine tz_l 26825514487 (by decide) ?_
            refine lv_lstore_n (lv' := [(1, .long 26825514487), (3, .int 4), (0, .ref o)]) hx hb dX11_digest_23 rfl hl (by decide) rfl (fun ls hl => ?_)
            refine lv_iinc (v := 5) (lv' := [(3, .int 5), (1, .long 26825514487), (0, .ref o)]) hx hb dX11_digest_24 hl (k := 1) rfl (by decide) (by decide) rfl (fun ls hl => ?_)
            refine lv_goto (tgt := 6) hx hb dX11_digest_27 (by decide) ?_
            refine lv_iload_n hx hb dX11_digest_6 rfl (lv_at hl 0 rfl) ?_
            refine lv_iconst (v := 5) hx hb dX11_digest_7 (by decide) ?_
            refine lv_icmp_gt (tgt := 30) hx hb dX11_digest_8 (by decide) (fun c_26 => ?_) (fun c_26 => ?_)
            · exact absurd c_26 (by decide)
            · refine lv_ldc2 hx hb hown (hts (.constantLong RX11 285 (31)) (by decide +kernel)) dX11_digest_11 ?_
              refine lv_lload_n hx hb dX11_digest_14 rfl (lv_at hl 1 rfl) ?_
              refine lv_lmul hx hb dX11_digest_15 ?_
              refine tz_l 831590949097 (by decide) ?_
              refine lv_aload_n hx hb dX11_digest_16 rfl (lv_at hl 2 rfl) ?_
              refine lv_iload_n hx hb dX11_digest_17 rfl (lv_at hl 0 rfl) ?_
              have hPc_27 := hP.sub (ws' := [(o, .inr (11, [.ref aw, .ref bk, .ref ai, .ref ak, .ref sc, .ref rd, .ref fo, .ref tx, .int 0, .ref ar, .ref atr, .ref ao])), (bk, .inr (0, [.ref rk0, .ref rk1, .ref rk2, .ref rk3, .ref eak, .int 0])), (rk0, .inr (6, [.int 1, .int 5, .ref cak0, .int 0])), (rk1, .inr (6, [.int 4, .int 5, .ref cak1, .int 0])), (rk2, .inr (6, [.int 4, .int 8, .ref cak2, .int 0])), (rk3, .inr (6, [.int 4, .int 6, .ref cak3, .int 0]))]) [0, 1, 2, 3, 4, 5] rfl
              have hKc_28 := hK.sub (tys' := []) [] rfl
              refine vp_callSi (va_Run.run (va_runV (As := [.int 5]) (rest := [.long 831590949097]) ⟨hx, hb, hml, hown, hts⟩ (k_howMany l dC dI o aw bk ai ak sc rd fo tx ar atr ao rk0 rk1 rk2 rk3 eak cak0 cak1 cak2 cak3 5 (by decide)) (cwV 1 hts gX11_digest_X11_howMany rfl rfl rfl (by decide +kernel) ⟨Nat.le_of_ble_eq_true rfl, Nat.le_of_ble_eq_true rfl⟩) ⟨fun a U g mk q => by obtain ⟨q0, qP, qK⟩ := q; exact ⟨q0, qP, va_K.moved (u := U) (U := U.calling g mk a) (Vm.Alike.refl U.vm) qK⟩, va_recv hK hP (ci := 11) (q0 := 0) rfl rfl, fun U hU hW => ⟨rfl, by rw [hU]; exact hPc_27, va_K.moved hW.alike hKc_28⟩⟩ rfl rfl hl.1 rfl (lv_room (Nat.le_of_ble_eq_true rfl)) dX11_digest_18 ⟨Nat.le_of_ble_eq_true rfl, Nat.le_of_ble_eq_true rfl⟩)) (fun r_29 hw_30 => ?_)
              obtain rfl : 0 = r_29 := hw_30.symm
              refine lv_i2l (v := 0) hx hb dX11_digest_21 (by decide) ?_
              refine lv_ladd hx hb dX11_digest_22 ?_
              refine tz_l 831590949097 (by decide) ?_
              refine lv_lstore_n (lv' := [(1, .long 831590949097), (3, .int 5), (0, .ref o)]) hx hb dX11_digest_23 rfl hl (by decide) rfl (fun ls hl => ?_)
              refine lv_iinc (v := 6) (lv' := [(3, .int 6), (1, .long 831590949097), (0, .ref o)]) hx hb dX11_digest_24 hl (k := 1) rfl (by decide) (by decide) rfl (fun ls hl => ?_)
              refine lv_goto (tgt := 6) hx hb dX11_digest_27 (by decide) ?_
              refine lv_iload_n hx hb dX11_digest_6 rfl (lv_at hl 0 rfl) ?_
              refine lv_iconst (v := 5) hx hb dX11_digest_7 (by decide) ?_
              refine lv_icmp_gt (tgt := 30) hx hb dX11_digest_8 (by decide) (fun c_31 => ?_) (fun c_31 => ?_)
              · refine lv_aload_n hx hb dX11_digest_30 rfl (lv_at hl 2 rfl) ?_
                refine va_get (D := (dC, dI)) (ci := 11) (v := .ref bk) (C := RX11) (T := TX11) (N := 12) hx hb hts iw_k_x_digest_X11 hown hK hP 0 rfl rfl 1 (by decide) (hts (.fieldLink RX11 34 "ThriceCounted" "bank" "LThriceCounted$Bank;") (by decide +kernel)) (fun _ h9 => h9) rfl dX11_digest_31 ?_
                refine va_get (D := (dC, dI)) (ci := 0) (v := .ref rk0) (C := RX0) (T := TX0) (N := 6) hx hb hts iw_k_x_digest_X0 hown hK hP 1 rfl rfl 0 (by decide) (hts (.fieldLink RX11 110 "ThriceCounted$Bank" "clerks" "LThriceCounted$Rows;") (by decide +kernel)) (fun _ h9 => h9) rfl dX11_digest_34 ?_
                refine lv_lload_n hx hb dX11_digest_37 rfl (lv_at hl 1 rfl) ?_
                have hPc_32 := hP.sub (ws' := [(rk0, .inr (6, [.int 1, .int 5, .ref cak0, .int 0]))]) [2] rfl
                have hKc_33 := hK.sub (tys' := []) [] rfl
                refine vp_callSl (va_Run.run (va_runV (As := [.long 831590949097]) (rest := []) ⟨hx, hb, hml, hown, hts⟩ (k_mix_1 l dC dI rk0 (.int 5) (.ref cak0) 831590949097) (cwV 1 hts gX11_digest_X6_mixInto rfl rfl rfl (by decide +kernel) ⟨Nat.le_of_ble_eq_true rfl, Nat.le_of_ble_eq_true rfl⟩) ⟨fun a U g mk q => by obtain ⟨q0, qP, qK⟩ := q; exact ⟨q0, qP, va_K.moved (u := U) (U := U.calling g mk a) (Vm.Alike.refl U.vm) qK⟩, va_recv hK hP (ci := 6) (q0 := 2) rfl rfl, fun U hU hW => ⟨rfl, by rw [hU]; exact hPc_32, va_K.moved hW.alike hKc_33⟩⟩ rfl rfl hl.1 rfl (lv_room (Nat.le_of_ble_eq_true rfl)) dX11_digest_38 ⟨Nat.le_of_ble_eq_true rfl, Nat.le_of_ble_eq_true rfl⟩)) (fun r_34 hw_35 => ?_)
                obtain rfl : 831590949097 = r_34 := hw_35.symm
                refine lv_lstore_n (lv' := [(1, .long 831590949097), (3, .int 6), (0, .ref o)]) hx hb dX11_digest_41 rfl hl (by decide) rfl (fun ls hl => ?_)
                refine lv_aload_n hx hb dX11_digest_42 rfl (lv_at hl 2 rfl) ?_
                refine va_get (D := (dC, dI)) (ci := 11) (v := .ref bk) (C := RX11) (T := TX11) (N := 12) hx hb hts iw_k_x_digest_X11 hown hK hP 0 rfl rfl 1 (by decide) (hts (.fieldLink RX11 34 "ThriceCounted" "bank" "LThriceCounted$Bank;") (by decide +kernel)) (fun _ h9 => h9) rfl dX11_digest_43 ?_
                refine va_get (D := (dC, dI)) (ci := 0) (v := .ref rk1) (C := RX0) (T := TX0) (N := 6) hx hb hts iw_k_x_digest_X0 hown hK hP 1 rfl rfl 1 (by decide) (hts (.fieldLink RX11 85 "ThriceCounted$Bank" "bundles" "LThriceCounted$Rows;") (by decide +kernel)) (fun _ h9 => h9) rfl dX11_digest_46 ?_
                refine lv_lload_n hx hb dX11_digest_49 rfl (lv_at hl 0 rfl) ?_
                have hPc_36 := hP.sub (ws' := [(rk1, .inr (6, [.int 4, .int 5, .ref cak1, .int 0]))]) [3] rfl
                have hKc_37 := hK.sub (tys' := []) [] rfl
                refine vp_callSl (va_Run.run (va_runV (As := [.long 831590949097]) (rest := []) ⟨hx, hb, hml, hown, hts⟩ (k_mix_4 l dC dI rk1 (.int 5) (.ref cak1) 831590949097) (cwV 1 hts gX11_digest_X6_mixInto rfl rfl rfl (by decide +kernel) ⟨Nat.le_of_ble_eq_true rfl, Nat.le_of_ble_eq_true rfl⟩) ⟨fun a U g mk q => by obtain ⟨q0, qP, qK⟩ := q; exact ⟨q0, qP, va_K.moved (u := U) (U := U.calling g mk a) (Vm.Alike.refl U.vm) qK⟩, va_recv hK hP (ci := 6) (q0 := 3) rfl rfl, fun U hU hW => ⟨rfl, by rw [hU]; exact hPc_36, va_K.moved hW.alike hKc_37⟩⟩ rfl rfl hl.1 rfl (lv_room (Nat.le_of_ble_eq_true rfl)) dX11_digest_50 ⟨Nat.le_of_ble_eq_true rfl, Nat.le_of_ble_eq_true rfl⟩)) (fun r_38 hw_39 => ?_)
                obtain rfl : 831590949097 = r_38 := hw_39.symm
                refine lv_lstore_n (lv' := [(1, .long 831590949097), (3, .int 6), (0, .ref o)]) hx hb dX11_digest_53 rfl hl (by decide) rfl (fun ls hl => ?_)
                refine lv_aload_n hx hb dX11_digest_54 rfl (lv_at hl 2 rfl) ?_
                refine va_get (D := (dC, dI)) (ci := 11) (v := .ref bk) (C := RX11) (T := TX11) (N := 12) hx hb hts iw_k_x_digest_X11 hown hK hP 0 rfl rfl 1 (by decide) (hts (.fieldLink RX11 34 "ThriceCounted" "bank" "LThriceCounted$Bank;") (by decide +kernel)) (fun _ h9 => h9) rfl dX11_digest_55 ?_
                refine va_get (D := (dC, dI)) (ci := 0) (v := .ref rk2) (C := RX0) (T := TX0) (N := 6) hx hb hts iw_k_x_digest_X0 hown hK hP 1 rfl rfl 2 (by decide) (hts (.fieldLink RX11 138 "ThriceCounted$Bank" "counts" "LThriceCounted$Rows;") (by decide +kernel)) (fun _ h9 => h9) rfl dX11_digest_58 ?_
                refine lv_lload_n hx hb dX11_digest_61 rfl (lv_at hl 0 rfl) ?_
                have hPc_40 := hP.sub (ws' := [(rk2, .inr (6, [.int 4, .int 8, .ref cak2, .int 0]))]) [4] rfl
                have hKc_41 := hK.sub (tys' := []) [] rfl
                refine vp_callSl (va_Run.run (va_runV (As := [.long 831590949097]) (rest := []) ⟨hx, hb, hml, hown, hts⟩ (k_mix_4 l dC dI rk2 (.int 8) (.ref cak2) 831590949097) (cwV 1 hts gX11_digest_X6_mixInto rfl rfl rfl (by decide +kernel) ⟨Nat.le_of_ble_eq_true rfl, Nat.le_of_ble_eq_true rfl⟩) ⟨fun a U g mk q => by obtain ⟨q0, qP, qK⟩ := q; exact ⟨q0, qP, va_K.moved (u := U) (U := U.calling g mk a) (Vm.Alike.refl U.vm) qK⟩, va_recv hK hP (ci := 6) (q0 := 4) rfl rfl, fun U hU hW => ⟨rfl, by rw [hU]; exact hPc_40, va_K.moved hW.alike hKc_41⟩⟩ rfl rfl hl.1 rfl (lv_room (Nat.le_of_ble_eq_true rfl)) dX11_digest_62 ⟨Nat.le_of_ble_eq_true rfl, Nat.le_of_ble_eq_true rfl⟩)) (fun r_42 hw_43 => ?_)
                obtain rfl : 831590949097 = r_42 := hw_43.symm
                refine lv_lstore_n (lv' := [(1, .long 831590949097), (3, .int 6), (0, .ref o)]) hx hb dX11_digest_65 rfl hl (by decide) rfl (fun ls hl => ?_)
                refine lv_aload_n hx hb dX11_digest_66 rfl (lv_at hl 2 rfl) ?_
                refine va_get (D := (dC, dI)) (ci := 11) (v := .ref bk) (C := RX11) (T := TX11) (N := 12) hx hb hts iw_k_x_digest_X11 hown hK hP 0 rfl rfl 1 (by decide) (hts (.fieldLink RX11 34 "ThriceCounted" "bank" "LThriceCounted$Bank;") (by decide +kernel)) (fun _ h9 => h9) rfl dX11_digest_67 ?_
                refine va_get (D := (dC, dI)) (ci := 0) (v := .ref rk3) (C := RX0) (T := TX0) (N := 6) hx hb hts iw_k_x_digest_X0 hown hK hP 1 rfl rfl 3 (by decide) (hts (.fieldLink RX11 227 "ThriceCounted$Bank" "causes" "LThriceCounted$Rows;") (by decide +kernel)) (fun _ h9 => h9) rfl dX11_digest_70 ?_
                refine lv_lload_n hx hb dX11_digest_73 rfl (lv_at hl 0 rfl) ?_
                have hPc_44 := hP.sub (ws' := [(rk3, .inr (6, [.int 4, .int 6, .ref cak3, .int 0]))]) [5] rfl
                have hKc_45 := hK.sub (tys' := []) [] rfl
                refine vp_callSl (va_Run.run (va_runV (As := [.long 831590949097]) (rest := []) ⟨hx, hb, hml, hown, hts⟩ (k_mix_4 l dC dI rk3 (.int 6) (.ref cak3) 831590949097) (cwV 1 hts gX11_digest_X6_mixInto rfl rfl rfl (by decide +kernel) ⟨Nat.le_of_ble_eq_true rfl, Nat.le_of_ble_eq_true rfl⟩) ⟨fun a U g mk q => by obtain ⟨q0, qP, qK⟩ := q; exact ⟨q0, qP, va_K.moved (u := U) (U := U.calling g mk a) (Vm.Alike.refl U.vm) qK⟩, va_recv hK hP (ci := 6) (q0 := 5) rfl rfl, fun U hU hW => ⟨rfl, by rw [hU]; exact hPc_44, va_K.moved hW.alike hKc_45⟩⟩ rfl rfl hl.1 rfl (lv_room (Nat.le_of_ble_eq_true rfl)) dX11_digest_74 ⟨Nat.le_of_ble_eq_true rfl, Nat.le_of_ble_eq_true rfl⟩)) (fun r_46 hw_47 => ?_)
                obtain rfl : 831590949097 = r_46 := hw_47.symm
                refine lv_lstore_n (lv' := [(1, .long 831590949097), (3, .int 6), (0, .ref o)]) hx hb dX11_digest_77 rfl hl (by decide) rfl (fun ls hl => ?_)
                refine lv_ldc2 hx hb hown (hts (.constantLong RX11 285 (31)) (by decide +kernel)) dX11_digest_78 ?_
                refine lv_lload_n hx hb dX11_digest_81 rfl (lv_at hl 0 rfl) ?_
                refine lv_lmul hx hb dX11_digest_82 ?_
                refine tz_l 25779319422007 (by decide) ?_
                refine lv_aload_n hx hb dX11_digest_83 rfl (lv_at hl 2 rfl) ?_
                refine va_get (D := (dC, dI)) (ci := 11) (v := .ref fo) (C := RX11) (T := TX11) (N := 12) hx hb hts iw_k_x_digest_X11 hown hK hP 0 rfl rfl 6 (by decide) (hts (.fieldLink RX11 63 "ThriceCounted" "fraction" "LThriceCounted$Fraction;") (by decide +kernel)) (fun _ h9 => h9) rfl dX11_digest_84 ?_
                have hPc_48 := hP.sub (ws' := [(fo, .inr (2, [.long 0, .long 1]))]) [6] rfl
                have hKc_49 := hK.sub (tys' := []) [] rfl
                refine vp_callSl (va_Run.run (va_runV (As := []) (rest := [.long 25779319422007]) ⟨hx, hb, hml, hown, hts⟩ (k_above l dC dI fo 0 (.long 1)) (cwV 0 hts gX11_digest_X2_above rfl rfl rfl (by decide +kernel) ⟨Nat.le_of_ble_eq_true rfl, Nat.le_of_ble_eq_true rfl⟩) ⟨fun a U g mk q => by obtain ⟨q0, qP, qK⟩ := q; exact ⟨q0, qP, va_K.moved (u := U) (U := U.calling g mk a) (Vm.Alike.refl U.vm) qK⟩, va_recv hK hP (ci := 2) (q0 := 6) rfl rfl, fun U hU hW => ⟨rfl, by rw [hU]; exact hPc_48, va_K.moved hW.alike hKc_49⟩⟩ rfl rfl hl.1 rfl (lv_room (Nat.le_of_ble_eq_true rfl)) dX11_digest_87 ⟨Nat.le_of_ble_eq_true rfl, Nat.le_of_ble_eq_true rfl⟩)) (fun r_50 hw_51 => ?_)
                obtain rfl : 0 = r_50 := hw_51.symm
                refine lv_ladd hx hb dX11_digest_90 ?_
                refine tz_l 25779319422007 (by decide) ?_
                refine lv_lstore_n (lv' := [(1, .long 25779319422007), (3, .int 6), (0, .ref o)]) hx hb dX11_digest_91 rfl hl (by decide) rfl (fun ls hl => ?_)
                refine lv_ldc2 hx hb hown (hts (.constantLong RX11 285 (31)) (by decide +kernel)) dX11_digest_92 ?_
                refine lv_lload_n hx hb dX11_digest_95 rfl (lv_at hl 0 rfl) ?_
                refine lv_lmul hx hb dX11_digest_96 ?_
                refine tz_l 799158902082217 (by decide) ?_
                refine lv_aload_n hx hb dX11_digest_97 rfl (lv_at hl 2 rfl) ?_
                refine va_get (D := (dC, dI)) (ci := 11) (v := .ref fo) (C := RX11) (T := TX11) (N := 12) hx hb hts iw_k_x_digest_X11 hown hK hP 0 rfl rfl 6 (by decide) (hts (.fieldLink RX11 63 "ThriceCounted" "fraction" "LThriceCounted$Fraction;") (by decide +kernel)) (fun _ h9 => h9) rfl dX11_digest_98 ?_
                have hPc_52 := hP.sub (ws' := [(fo, .inr (2, [.long 0, .long 1]))]) [6] rfl
                have hKc_53 := hK.sub (tys' := []) [] rfl
                refine vp_callSl (va_Run.run (va_runV (As := []) (rest := [.long 799158902082217]) ⟨hx, hb, hml, hown, hts⟩ (k_below l dC dI fo (.long 0) 1) (cwV 0 hts gX11_digest_X2_below rfl rfl rfl (by decide +kernel) ⟨Nat.le_of_ble_eq_true rfl, Nat.le_of_ble_eq_true rfl⟩) ⟨fun a U g mk q => by obtain ⟨q0, qP, qK⟩ := q; exact ⟨q0, qP, va_K.moved (u := U) (U := U.calling g mk a) (Vm.Alike.refl U.vm) qK⟩, va_recv hK hP (ci := 2) (q0 := 6) rfl rfl, fun U hU hW => ⟨rfl, by rw [hU]; exact hPc_52, va_K.moved hW.alike hKc_53⟩⟩ rfl rfl hl.1 rfl (lv_room (Nat.le_of_ble_eq_true rfl)) dX11_digest_101 ⟨Nat.le_of_ble_eq_true rfl, Nat.le_of_ble_eq_true rfl⟩)) (fun r_54 hw_55 => ?_)
                obtain rfl : 1 = r_54 := hw_55.symm
                refine lv_ladd hx hb dX11_digest_104 ?_
                refine tz_l 799158902082218 (by decide) ?_
                exact W.lret (v := 799158902082218) hx hb hr (fun t ht hW => ⟨⟨799158902082218, (), rfl, rfl, trivial⟩, hS.F ht⟩) hS.2.2 dX11_digest_105
              · exact absurd c_31 (by decide)
