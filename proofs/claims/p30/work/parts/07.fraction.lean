theorem dX2_above_0 : decode cX2_above 0 = .ok (.aload_n 0, 1) := by decide +kernel
theorem dX2_above_1 : decode cX2_above 1 = .ok (.getfield 7, 3) := by decide +kernel
theorem dX2_above_4 : decode cX2_above 4 = .ok (.lreturn, 1) := by decide +kernel
set_option maxRecDepth 20000 in
theorem iw_f_above_X2 : ∀ w ∈ wsX20, w ∈ wsX2_above := by decide +kernel
set_option maxHeartbeats 4000000 in
set_option maxRecDepth 100000 in
theorem f_above (l : Launch) (dC : Nat → ClassId) (dI : Nat → Nat → Nat) (fo : Nat) (la : Int64) (lb : Int64) : Met l yX2_above wsX2_above ({ frames := 0, cells := 0, slots := 0, locals := 0 }) (va_Pc [.ref fo] (fun U => va_P (dC, dI) vwCl [(fo, .inr (2, [.long la, .long lb]))] U.heap ∧ va_K (dC, dI) vwCl [] U)) (vp_Sl (fun r => r = la)) 0 0 (fun _ => False) := by
  refine Met.ofW (cc := cX2_above) (maxL := 1) (ret := (some .long)) (by decide) rfl ?_
  intro p e s m args below meth c s₁ B hml hv
  obtain ⟨rfl, hP, hK⟩ := hv
  have hx := B.exec
  have hb := B.bytes
  have hr := B.returns
  have hts := atoms_spec (ws := wsX2_above) B.pre
  have hown : s.vm.findClass RX2 = some m.cls := findClass_of_methodNamed B.named
  have hlocks := B.notSynchronized
  have hl := lv_entry ([.ref fo]) (n := 1) (Nat.le_of_ble_eq_true rfl)
  rw [lg_entry_eq]
  generalize (lg_sl ([.ref fo]) ++ List.replicate (1 - (lg_sl ([.ref fo])).length) Slot.unset).toArray = ls at hl ⊢
  have hl : lv_has ls 1 [(0, .ref fo)] := hl
  refine lv_aload_n hx hb dX2_above_0 rfl (lv_at hl 0 rfl) ?_
  refine va_get (D := (dC, dI)) (ci := 2) (v := .long la) (C := RX2) (T := TX2) (N := 2) hx hb hts iw_f_above_X2 hown hK hP 0 rfl rfl 0 (by decide) (hts (.fieldLink RX2 7 "ThriceCounted$Fraction" "above" "J") (by decide +kernel)) (fun _ h9 => h9) rfl dX2_above_1 ?_
  exact W.lret (v := la) hx hb hr (fun t ht hW => ⟨la, rfl, rfl, ht⟩) (fun _ h => absurd h List.not_mem_nil) dX2_above_4
theorem dX2_below_0 : decode cX2_below 0 = .ok (.aload_n 0, 1) := by decide +kernel
theorem dX2_below_1 : decode cX2_below 1 = .ok (.getfield 13, 3) := by decide +kernel
theorem dX2_below_4 : decode cX2_below 4 = .ok (.lreturn, 1) := by decide +kernel
set_option maxRecDepth 20000 in
theorem iw_f_below_X2 : ∀ w ∈ wsX20, w ∈ wsX2_below := by decide +kernel
set_option maxHeartbeats 4000000 in
set_option maxRecDepth 100000 in
theorem f_below (l : Launch) (dC : Nat → ClassId) (dI : Nat → Nat → Nat) (fo : Nat) (la : Int64) (lb : Int64) : Met l yX2_below wsX2_below ({ frames := 0, cells := 0, slots := 0, locals := 0 }) (va_Pc [.ref fo] (fun U => va_P (dC, dI) vwCl [(fo, .inr (2, [.long la, .long lb]))] U.heap ∧ va_K (dC, dI) vwCl [] U)) (vp_Sl (fun r => r = lb)) 0 0 (fun _ => False) := by
  refine Met.ofW (cc := cX2_below) (maxL := 1) (ret := (some .long)) (by decide) rfl ?_
  intro p e s m args below meth c s₁ B hml hv
  obtain ⟨rfl, hP, hK⟩ := hv
  have hx := B.exec
  have hb := B.bytes
  have hr := B.returns
  have hts := atoms_spec (ws := wsX2_below) B.pre
  have hown : s.vm.findClass RX2 = some m.cls := findClass_of_methodNamed B.named
  have hlocks := B.notSynchronized
  have hl := lv_entry ([.ref fo]) (n := 1) (Nat.le_of_ble_eq_true rfl)
  rw [lg_entry_eq]
  generalize (lg_sl ([.ref fo]) ++ List.replicate (1 - (lg_sl ([.ref fo])).length) Slot.unset).toArray = ls at hl ⊢
  have hl : lv_has ls 1 [(0, .ref fo)] := hl
  refine lv_aload_n hx hb dX2_below_0 rfl (lv_at hl 0 rfl) ?_
  refine va_get (D := (dC, dI)) (ci := 2) (v := .long lb) (C := RX2) (T := TX2) (N := 2) hx hb hts iw_f_below_X2 hown hK hP 0 rfl rfl 1 (by decide) (hts (.fieldLink RX2 13 "ThriceCounted$Fraction" "below" "J") (by decide +kernel)) (fun _ h9 => h9) rfl dX2_below_1 ?_
  exact W.lret (v := lb) hx hb hr (fun t ht hW => ⟨lb, rfl, rfl, ht⟩) (fun _ h => absurd h List.not_mem_nil) dX2_below_4
theorem dX2_commonDivisor_0 : decode cX2_commonDivisor 0 = .ok (.lload_n 0, 1) := by decide +kernel
theorem dX2_commonDivisor_1 : decode cX2_commonDivisor 1 = .ok (.lstore 4, 2) := by decide +kernel
theorem dX2_commonDivisor_3 : decode cX2_commonDivisor 3 = .ok (.lload_n 2, 1) := by decide +kernel
theorem dX2_commonDivisor_4 : decode cX2_commonDivisor 4 = .ok (.lstore 6, 2) := by decide +kernel
theorem dX2_commonDivisor_6 : decode cX2_commonDivisor 6 = .ok (.iconst 0, 1) := by decide +kernel
theorem dX2_commonDivisor_7 : decode cX2_commonDivisor 7 = .ok (.istore 8, 2) := by decide +kernel
theorem dX2_commonDivisor_9 : decode cX2_commonDivisor 9 = .ok (.iload 8, 2) := by decide +kernel
theorem dX2_commonDivisor_11 : decode cX2_commonDivisor 11 = .ok (.bipush 100, 2) := by decide +kernel
theorem dX2_commonDivisor_13 : decode cX2_commonDivisor 13 = .ok (.if_icmp .ge 31, 3) := by decide +kernel
theorem dX2_commonDivisor_16 : decode cX2_commonDivisor 16 = .ok (.lload 6, 2) := by decide +kernel
theorem dX2_commonDivisor_18 : decode cX2_commonDivisor 18 = .ok (.lconst 0, 1) := by decide +kernel
theorem dX2_commonDivisor_19 : decode cX2_commonDivisor 19 = .ok (.lcmp, 1) := by decide +kernel
theorem dX2_commonDivisor_20 : decode cX2_commonDivisor 20 = .ok (.ifCond .eq 24, 3) := by decide +kernel
theorem dX2_commonDivisor_23 : decode cX2_commonDivisor 23 = .ok (.lload 4, 2) := by decide +kernel
theorem dX2_commonDivisor_25 : decode cX2_commonDivisor 25 = .ok (.lload 6, 2) := by decide +kernel
theorem dX2_commonDivisor_27 : decode cX2_commonDivisor 27 = .ok (.lrem, 1) := by decide +kernel
theorem dX2_commonDivisor_28 : decode cX2_commonDivisor 28 = .ok (.lstore 9, 2) := by decide +kernel
theorem dX2_commonDivisor_30 : decode cX2_commonDivisor 30 = .ok (.lload 6, 2) := by decide +kernel
theorem dX2_commonDivisor_32 : decode cX2_commonDivisor 32 = .ok (.lstore 4, 2) := by decide +kernel
theorem dX2_commonDivisor_34 : decode cX2_commonDivisor 34 = .ok (.lload 9, 2) := by decide +kernel
theorem dX2_commonDivisor_36 : decode cX2_commonDivisor 36 = .ok (.lstore 6, 2) := by decide +kernel
theorem dX2_commonDivisor_38 : decode cX2_commonDivisor 38 = .ok (.iinc 8 1, 3) := by decide +kernel
theorem dX2_commonDivisor_41 : decode cX2_commonDivisor 41 = .ok (.goto (-32), 3) := by decide +kernel
theorem dX2_commonDivisor_44 : decode cX2_commonDivisor 44 = .ok (.lload 4, 2) := by decide +kernel
theorem dX2_commonDivisor_46 : decode cX2_commonDivisor 46 = .ok (.lreturn, 1) := by decide +kernel
set_option maxHeartbeats 4000000 in
set_option maxRecDepth 100000 in
theorem f_gcd (l : Launch) (dC : Nat → ClassId) (dI : Nat → Nat → Nat) (pa : Int64) (pb : Int64) : Met l yX2_commonDivisor wsX2_commonDivisor ({ frames := 0, cells := 0, slots := 0, locals := 0 }) (va_Pc [.long pa, .long pb] (fun _ => True)) (vp_Sl (fun r => True)) 0 0 (fun _ => False) := by
  refine Met.ofW (cc := cX2_commonDivisor) (maxL := 11) (ret := (some .long)) (by decide) rfl ?_
  intro p e s m args below meth c s₁ B hml hv
  obtain ⟨rfl, -⟩ := hv
  have hx := B.exec
  have hb := B.bytes
  have hr := B.returns
  have hts := atoms_spec (ws := wsX2_commonDivisor) B.pre
  have hown : s.vm.findClass RX2 = some m.cls := findClass_of_methodNamed B.named
  have hlocks := B.notSynchronized
  have hl := lv_entry ([.long pa, .long pb]) (n := 11) (Nat.le_of_ble_eq_true rfl)
  rw [lg_entry_eq]
  generalize (lg_sl ([.long pa, .long pb]) ++ List.replicate (11 - (lg_sl ([.long pa, .long pb])).length) Slot.unset).toArray = ls at hl ⊢
  have hl : lv_has ls 11 [(0, .long pa), (2, .long pb)] := hl
  refine lv_lload_n hx hb dX2_commonDivisor_0 rfl (lv_at hl 0 rfl) ?_
  refine lv_lstore (lv' := [(4, .long pa), (0, .long pa), (2, .long pb)]) hx hb dX2_commonDivisor_1 hl (by decide) rfl (fun ls hl => ?_)
  refine lv_lload_n hx hb dX2_commonDivisor_3 rfl (lv_at hl 2 rfl) ?_
  refine lv_lstore (lv' := [(6, .long pb), (4, .long pa), (0, .long pa), (2, .long pb)]) hx hb dX2_commonDivisor_4 hl (by decide) rfl (fun ls hl => ?_)
  refine lv_iconst (v := 0) hx hb dX2_commonDivisor_6 (by decide) ?_
  refine lv_istore (lv' := [(8, .int 0), (6, .long pb), (4, .long pa), (0, .long pa), (2, .long pb)]) hx hb dX2_commonDivisor_7 hl (by decide) rfl (fun ls hl => ?_)
  refine tz_while (σ := Nat × Int64 × Int64 × Array Slot) (fun x => W p l e _ s m _ below meth c _ _ _ _ _ (F0 m 9 x.2.2.2 [])) (fun x => x.1 ≤ 100 ∧ lv_has x.2.2.2 11 [(8, .int (nI x.1)), (6, .long x.2.1), (4, .long x.2.2.1), (0, .long pa), (2, .long pb)]) (fun x => 100 - x.1) ?_ (0, pb, pa, ls) ⟨by omega, hl⟩
  rintro ⟨k_1, v_7, v_8, ls⟩ ⟨hi_14_0, hl⟩ ih_15
  dsimp only at hi_14_0 hl ih_15 ⊢
  refine lv_iload hx hb dX2_commonDivisor_9 (lv_at hl 0 rfl) ?_
  refine lv_bipush (v := 100) hx hb dX2_commonDivisor_11 (by decide) ?_
  refine lv_icmp_ge (tgt := 44) hx hb dX2_commonDivisor_13 (by decide) (fun c_16 => ?_) (fun c_16 => ?_)
  · have hn_17 : 100 ≤ k_1 := (nI_leI (a := 100) (b := k_1) (by omega) (by omega)).mp c_16
    refine lv_lload hx hb dX2_commonDivisor_44 (lv_at hl 2 rfl) ?_
    exact W.lret (v := v_8) hx hb hr (fun t ht hW => ⟨v_8, rfl, trivial, ht⟩) (fun _ h => absurd h List.not_mem_nil) dX2_commonDivisor_46
  · have hn_18 : ¬ 100 ≤ k_1 := fun q => c_16 ((nI_leI (a := 100) (b := k_1) (by omega) (by omega)).mpr q)
    refine lv_lload hx hb dX2_commonDivisor_16 (lv_at hl 1 rfl) ?_
    refine lv_lconst (v := 0) hx hb dX2_commonDivisor_18 (by decide) ?_
    refine W.lcmp hx hb dX2_commonDivisor_19 ?_
    refine lv_if_eq (tgt := 44) hx hb dX2_commonDivisor_20 (by decide) (fun c_19 => ?_) (fun c_19 => ?_)
    · refine lv_lload hx hb dX2_commonDivisor_44 (lv_at hl 2 rfl) ?_
      exact W.lret (v := v_8) hx hb hr (fun t ht hW => ⟨v_8, rfl, trivial, ht⟩) (fun _ h => absurd h List.not_mem_nil) dX2_commonDivisor_46
    · refine lv_lload hx hb dX2_commonDivisor_23 (lv_at hl 2 rfl) ?_
      refine lv_lload hx hb dX2_commonDivisor_25 (lv_at hl 1 rfl) ?_
      refine lv_lrem hx hb dX2_commonDivisor_27 (tz_cmp_ne c_19) ?_
      refine lv_topl (fun x_20 _ => ?_)
      refine lv_lstore (lv' := [(9, .long x_20), (8, .int (nI k_1)), (6, .long v_7), (4, .long v_8), (0, .long pa), (2, .long pb)]) hx hb dX2_commonDivisor_28 hl (by decide) rfl (fun ls hl => ?_)
      refine lv_lload hx hb dX2_commonDivisor_30 (lv_at hl 2 rfl) ?_
      refine lv_lstore (lv' := [(4, .long v_7), (9, .long x_20), (8, .int (nI k_1)), (6, .long v_7), (0, .long pa), (2, .long pb)]) hx hb dX2_commonDivisor_32 hl (by decide) rfl (fun ls hl => ?_)
      refine lv_lload hx hb dX2_commonDivisor_34 (lv_at hl 1 rfl) ?_
      refine lv_lstore (lv' := [(6, .long x_20), (4, .long v_7), (9, .long x_20), (8, .int (nI k_1)), (0, .long pa), (2, .long pb)]) hx hb dX2_commonDivisor_36 hl (by decide) rfl (fun ls hl => ?_)
      refine lv_iinc (v := (nI (k_1 + 1))) (lv' := [(8, .int (nI (k_1 + 1))), (6, .long x_20), (4, .long v_7), (9, .long x_20), (0, .long pa), (2, .long pb)]) hx hb dX2_commonDivisor_38 hl (k := 3) rfl (nI_add k_1 1) (by decide) rfl (fun ls hl => ?_)
      refine lv_goto (tgt := 9) hx hb dX2_commonDivisor_41 (by decide) ?_
      exact ih_15 ((k_1 + 1), x_20, v_7, ls) ⟨by dsimp only; omega, lv_sub hl [0, 1, 2, 4, 5] rfl⟩ (by dsimp only; omega)
set_option maxRecDepth 20000 in
theorem ggX2_become_X2_commonDivisor : GoodIn wsX2_become wsX2_commonDivisor := goodIn_r _ [6] (by decide +kernel) (by decide +kernel)
set_option maxRecDepth 20000 in
theorem gX2_become_X2_commonDivisor : GoodIn wsX2_become (va_wsS RX2 16 yX2_commonDivisor wsX2_commonDivisor) := goodIn_app (goodIn_of _ (by decide +kernel)) ggX2_become_X2_commonDivisor
theorem dX2_become_0 : decode cX2_become 0 = .ok (.lload_n 1, 1) := by decide +kernel
theorem dX2_become_1 : decode cX2_become 1 = .ok (.lload_n 3, 1) := by decide +kernel
theorem dX2_become_2 : decode cX2_become 2 = .ok (.invokestatic 16, 3) := by decide +kernel
theorem dX2_become_5 : decode cX2_become 5 = .ok (.lstore 5, 2) := by decide +kernel
theorem dX2_become_7 : decode cX2_become 7 = .ok (.lload 5, 2) := by decide +kernel
theorem dX2_become_9 : decode cX2_become 9 = .ok (.lconst 0, 1) := by decide +kernel
theorem dX2_become_10 : decode cX2_become 10 = .ok (.lcmp, 1) := by decide +kernel
theorem dX2_become_11 : decode cX2_become 11 = .ok (.ifCond .le 9, 3) := by decide +kernel
theorem dX2_become_20 : decode cX2_become 20 = .ok (.return_, 1) := by decide +kernel
theorem dX2_become_14 : decode cX2_become 14 = .ok (.lload_n 3, 1) := by decide +kernel
theorem dX2_become_15 : decode cX2_become 15 = .ok (.lconst 0, 1) := by decide +kernel
theorem dX2_become_16 : decode cX2_become 16 = .ok (.lcmp, 1) := by decide +kernel
theorem dX2_become_17 : decode cX2_become 17 = .ok (.ifCond .gt 4, 3) := by decide +kernel
theorem dX2_become_21 : decode cX2_become 21 = .ok (.aload_n 0, 1) := by decide +kernel
theorem dX2_become_22 : decode cX2_become 22 = .ok (.lload_n 1, 1) := by decide +kernel
theorem dX2_become_23 : decode cX2_become 23 = .ok (.lload 5, 2) := by decide +kernel
theorem dX2_become_25 : decode cX2_become 25 = .ok (.ldiv, 1) := by decide +kernel
theorem dX2_become_26 : decode cX2_become 26 = .ok (.putfield 7, 3) := by decide +kernel
theorem dX2_become_29 : decode cX2_become 29 = .ok (.aload_n 0, 1) := by decide +kernel
theorem dX2_become_30 : decode cX2_become 30 = .ok (.lload_n 3, 1) := by decide +kernel
theorem dX2_become_31 : decode cX2_become 31 = .ok (.lload 5, 2) := by decide +kernel
theorem dX2_become_33 : decode cX2_become 33 = .ok (.ldiv, 1) := by decide +kernel
theorem dX2_become_34 : decode cX2_become 34 = .ok (.putfield 13, 3) := by decide +kernel
theorem dX2_become_37 : decode cX2_become 37 = .ok (.return_, 1) := by decide +kernel
set_option maxRecDepth 20000 in
theorem iw_f_become_X2 : ∀ w ∈ wsX20, w ∈ wsX2_become := by decide +kernel
set_option maxHeartbeats 4000000 in
set_option maxRecDepth 100000 in
theorem f_become (l : Launch) (dC : Nat → ClassId) (dI : Nat → Nat → Nat) (fo : Nat) (la : Int64) (lb : Int64) (pa : Int64) (pb : Int64) (sz : Nat) : Met l yX2_become wsX2_become ({ frames := 1, cells := 0, slots := 0, locals := 30 }) (va_Pc [.ref fo, .long pa, .long pb] (fun U => U.heap.size = sz ∧ va_P (dC, dI) vwCl [(fo, .inr (2, [.long la, .long lb]))] U.heap ∧ va_K (dC, dI) vwCl [] U ∧ va_D (fun _ => True) [(fo, .inr (2, [.long la, .long lb]))])) (va_Qv (fun (_ : Unit) => True) (fun _ t => ∃ (lg : Int64) (lh : Int64), va_P (dC, dI) vwCl [(fo, .inr (2, [.long lg, .long lh]))] t.heap ∧ va_K (dC, dI) vwCl [] t ∧ va_D (va_A [(fo, .inr (2, [.long la, .long lb]))] sz) [(fo, .inr (2, [.long lg, .long lh]))]) (va_A [(fo, .inr (2, [.long la, .long lb]))] sz)) 0 0 (va_A [(fo, .inr (2, [.long la, .long lb]))] sz) := by
  refine Met.ofW (cc := cX2_become) (maxL := 7) (ret := none) (by decide) rfl ?_
  intro p e s m args below meth c s₁ B hml hv
  obtain ⟨rfl, hsz, hP, hK, hD0⟩ := hv
  have hx := B.exec
  have hb := B.bytes
  have hr := B.returns
  have hts := atoms_spec (ws := wsX2_become) B.pre
  have hown : s.vm.findClass RX2 = some m.cls := findClass_of_methodNamed B.named
  have hlocks := B.notSynchronized
  subst hsz
  have hD := hD0.self (sz := s.heap.size)
  generalize hAe : va_A [(fo, .inr (2, [.long la, .long lb]))] s.heap.size = A at hD ⊢
  have hA : ∀ q : Nat, s.heap.size ≤ q → A q := fun q h => by rw [← hAe]; exact Or.inr h
  have hS : va_S A s.heap s.heap [] := va_S.rf
  have hP : va_P (dC, dI) vwCl [(fo, .inr (2, [.long la, .long lb]))] s.heap := hP
  have hl := lv_entry ([.ref fo, .long pa, .long pb]) (n := 7) (Nat.le_of_ble_eq_true rfl)
  rw [lg_entry_eq]
  generalize (lg_sl ([.ref fo, .long pa, .long pb]) ++ List.replicate (7 - (lg_sl ([.ref fo, .long pa, .long pb])).length) Slot.unset).toArray = ls at hl ⊢
  have hl : lv_has ls 7 [(0, .ref fo), (1, .long pa), (3, .long pb)] := hl
  refine lv_lload_n hx hb dX2_become_0 rfl (lv_at hl 1 rfl) ?_
  refine lv_lload_n hx hb dX2_become_1 rfl (lv_at hl 2 rfl) ?_
  refine vp_callSl (va_Run.run (va_runS (As := [.long pa, .long pb]) (rest := []) ⟨hx, hb, hml, hown, hts⟩ (f_gcd l dC dI pa pb) (va_cwS 2 hts gX2_become_X2_commonDivisor rfl rfl rfl (by decide +kernel) ⟨Nat.le_of_ble_eq_true rfl, Nat.le_of_ble_eq_true rfl⟩) ⟨fun a U g mk q => ⟨q.1, trivial⟩, fun U hU hW => ⟨rfl, trivial⟩⟩ rfl rfl hl.1 rfl (lv_room (Nat.le_of_ble_eq_true rfl)) dX2_become_2 ⟨Nat.le_of_ble_eq_true rfl, Nat.le_of_ble_eq_true rfl⟩)) (fun r_1 hw_2 => ?_)
  refine lv_lstore (lv' := [(5, .long r_1), (0, .ref fo), (1, .long pa), (3, .long pb)]) hx hb dX2_become_5 hl (by decide) rfl (fun ls hl => ?_)
  refine lv_lload hx hb dX2_become_7 (lv_at hl 0 rfl) ?_
  refine lv_lconst (v := 0) hx hb dX2_become_9 (by decide) ?_
  refine W.lcmp hx hb dX2_become_10 ?_
  refine lv_if_le (tgt := 20) hx hb dX2_become_11 (by decide) (fun c_3 => ?_) (fun c_3 => ?_)
  · have hP9 := hP.sub (ws' := [(fo, .inr (2, [.long la, .long lb]))]) [0] rfl
    have hD9 := hD.sub (ws' := [(fo, .inr (2, [.long la, .long lb]))]) [0] (by decide) rfl
    have hK9 := hK.sub (tys' := []) [] rfl
    exact W.vret hx hb hr (fun t ht hW => ⟨⟨(), rfl, trivial, la, lb, by rw [ht]; exact hP9, va_K.moved hW.alike hK9, hD9⟩, hS.F ht⟩) hS.2.2 dX2_become_20
  · refine lv_lload_n hx hb dX2_become_14 rfl (lv_at hl 3 rfl) ?_
    refine lv_lconst (v := 0) hx hb dX2_become_15 (by decide) ?_
    refine W.lcmp hx hb dX2_become_16 ?_
    refine lv_if_gt (tgt := 21) hx hb dX2_become_17 (by decide) (fun c_4 => ?_) (fun c_4 => ?_)
    · refine lv_aload_n hx hb dX2_become_21 rfl (lv_at hl 1 rfl) ?_
      refine lv_lload_n hx hb dX2_become_22 rfl (lv_at hl 2 rfl) ?_
      refine lv_lload hx hb dX2_become_23 (lv_at hl 0 rfl) ?_
      refine lv_ldiv hx hb dX2_become_25 (tz_cmp_pos c_3) ?_
      refine lv_topl (fun x_5 _ => ?_)
      refine va_put (D := (dC, dI)) (ci := 2) (v := .long x_5) (ty := .long) (C := RX2) (T := TX2) (N := 2) hx hb hts iw_f_become_X2 tyX2 tyX2_ok nmX2 hown hK hP hD hS 0 rfl rfl 0 (by decide) (hts (.fieldLink RX2 7 "ThriceCounted$Fraction" "above" "J") (by decide +kernel)) (fun _ h9 => h9) rfl (by decide +kernel) rfl rfl (Nat.le_of_ble_eq_true rfl) dX2_become_26 (fun H locs hP hD hS => ?_)
      have hP : va_P (dC, dI) vwCl [(fo, .inr (2, [.long x_5, .long lb]))] H := hP
      have hD : va_D A [(fo, .inr (2, [.long x_5, .long lb]))] := hD
      refine lv_aload_n hx hb dX2_become_29 rfl (lv_at hl 1 rfl) ?_
      refine lv_lload_n hx hb dX2_become_30 rfl (lv_at hl 3 rfl) ?_
      refine lv_lload hx hb dX2_become_31 (lv_at hl 0 rfl) ?_
      refine lv_ldiv hx hb dX2_become_33 (tz_cmp_pos c_3) ?_
      refine lv_topl (fun x_6 _ => ?_)
      refine va_put (D := (dC, dI)) (ci := 2) (v := .long x_6) (ty := .long) (C := RX2) (T := TX2) (N := 2) hx hb hts iw_f_become_X2 tyX2 tyX2_ok nmX2 hown hK hP hD hS 0 rfl rfl 1 (by decide) (hts (.fieldLink RX2 13 "ThriceCounted$Fraction" "below" "J") (by decide +kernel)) (fun _ h9 => h9) rfl (by decide +kernel) rfl rfl (Nat.le_of_ble_eq_true rfl) dX2_become_34 (fun H locs hP hD hS => ?_)
      have hP : va_P (dC, dI) vwCl [(fo, .inr (2, [.long x_5, .long x_6]))] H := hP
      have hD : va_D A [(fo, .inr (2, [.long x_5, .long x_6]))] := hD
      have hP9 := hP.sub (ws' := [(fo, .inr (2, [.long x_5, .long x_6]))]) [0] rfl
      have hD9 := hD.sub (ws' := [(fo, .inr (2, [.long x_5, .long x_6]))]) [0] (by decide) rfl
      have hK9 := hK.sub (tys' := []) [] rfl
      exact W.vret hx hb hr (fun t ht hW => ⟨⟨(), rfl, trivial, x_5, x_6, by rw [ht]; exact hP9, va_K.moved hW.alike hK9, hD9⟩, hS.F ht⟩) hS.2.2 dX2_become_37
    · have hP9 := hP.sub (ws' := [(fo, .inr (2, [.long la, .long lb]))]) [0] rfl
      have hD9 := hD.sub (ws' := [(fo, .inr (2, [.long la, .long lb]))]) [0] (by decide) rfl
      have hK9 := hK.sub (tys' := []) [] rfl
      exact W.vret hx hb hr (fun t ht hW => ⟨⟨(), rfl, trivial, la, lb, by rw [ht]; exact hP9, va_K.moved hW.alike hK9, hD9⟩, hS.F ht⟩) hS.2.2 dX2_become_20
theorem dX2_isMore_0 : decode cX2_isMore 0 = .ok (.lload_n 0, 1) := by decide +kernel
theorem dX2_isMore_1 : decode cX2_isMore 1 = .ok (.lstore 8, 2) := by decide +kernel
theorem dX2_isMore_3 : decode cX2_isMore 3 = .ok (.lload_n 2, 1) := by decide +kernel
theorem dX2_isMore_4 : decode cX2_isMore 4 = .ok (.lstore 10, 2) := by decide +kernel
theorem dX2_isMore_6 : decode cX2_isMore 6 = .ok (.lload 4, 2) := by decide +kernel
theorem dX2_isMore_8 : decode cX2_isMore 8 = .ok (.lstore 12, 2) := by decide +kernel
theorem dX2_isMore_10 : decode cX2_isMore 10 = .ok (.lload 6, 2) := by decide +kernel
theorem dX2_isMore_12 : decode cX2_isMore 12 = .ok (.lstore 14, 2) := by decide +kernel
theorem dX2_isMore_14 : decode cX2_isMore 14 = .ok (.iconst 0, 1) := by decide +kernel
theorem dX2_isMore_15 : decode cX2_isMore 15 = .ok (.istore 16, 2) := by decide +kernel
theorem dX2_isMore_17 : decode cX2_isMore 17 = .ok (.iload 16, 2) := by decide +kernel
theorem dX2_isMore_19 : decode cX2_isMore 19 = .ok (.bipush 100, 2) := by decide +kernel
theorem dX2_isMore_21 : decode cX2_isMore 21 = .ok (.if_icmp .ge 117, 3) := by decide +kernel
theorem dX2_isMore_24 : decode cX2_isMore 24 = .ok (.lload 10, 2) := by decide +kernel
theorem dX2_isMore_26 : decode cX2_isMore 26 = .ok (.lconst 0, 1) := by decide +kernel
theorem dX2_isMore_27 : decode cX2_isMore 27 = .ok (.lcmp, 1) := by decide +kernel
theorem dX2_isMore_28 : decode cX2_isMore 28 = .ok (.ifCond .le 110, 3) := by decide +kernel
theorem dX2_isMore_31 : decode cX2_isMore 31 = .ok (.lload 14, 2) := by decide +kernel
theorem dX2_isMore_33 : decode cX2_isMore 33 = .ok (.lconst 0, 1) := by decide +kernel
theorem dX2_isMore_34 : decode cX2_isMore 34 = .ok (.lcmp, 1) := by decide +kernel
theorem dX2_isMore_35 : decode cX2_isMore 35 = .ok (.ifCond .le 103, 3) := by decide +kernel
theorem dX2_isMore_38 : decode cX2_isMore 38 = .ok (.lload 8, 2) := by decide +kernel
theorem dX2_isMore_40 : decode cX2_isMore 40 = .ok (.lload 10, 2) := by decide +kernel
theorem dX2_isMore_42 : decode cX2_isMore 42 = .ok (.ldiv, 1) := by decide +kernel
theorem dX2_isMore_43 : decode cX2_isMore 43 = .ok (.lstore 17, 2) := by decide +kernel
theorem dX2_isMore_45 : decode cX2_isMore 45 = .ok (.lload 12, 2) := by decide +kernel
theorem dX2_isMore_47 : decode cX2_isMore 47 = .ok (.lload 14, 2) := by decide +kernel
theorem dX2_isMore_49 : decode cX2_isMore 49 = .ok (.ldiv, 1) := by decide +kernel
theorem dX2_isMore_50 : decode cX2_isMore 50 = .ok (.lstore 19, 2) := by decide +kernel
theorem dX2_isMore_52 : decode cX2_isMore 52 = .ok (.lload 17, 2) := by decide +kernel
theorem dX2_isMore_54 : decode cX2_isMore 54 = .ok (.lload 19, 2) := by decide +kernel
theorem dX2_isMore_56 : decode cX2_isMore 56 = .ok (.lcmp, 1) := by decide +kernel
theorem dX2_isMore_57 : decode cX2_isMore 57 = .ok (.ifCond .eq 17, 3) := by decide +kernel
theorem dX2_isMore_74 : decode cX2_isMore 74 = .ok (.lload 8, 2) := by decide +kernel
theorem dX2_isMore_76 : decode cX2_isMore 76 = .ok (.lload 10, 2) := by decide +kernel
theorem dX2_isMore_78 : decode cX2_isMore 78 = .ok (.lrem, 1) := by decide +kernel
theorem dX2_isMore_79 : decode cX2_isMore 79 = .ok (.lstore 21, 2) := by decide +kernel
theorem dX2_isMore_81 : decode cX2_isMore 81 = .ok (.lload 12, 2) := by decide +kernel
theorem dX2_isMore_83 : decode cX2_isMore 83 = .ok (.lload 14, 2) := by decide +kernel
theorem dX2_isMore_85 : decode cX2_isMore 85 = .ok (.lrem, 1) := by decide +kernel
theorem dX2_isMore_86 : decode cX2_isMore 86 = .ok (.lstore 23, 2) := by decide +kernel
theorem dX2_isMore_88 : decode cX2_isMore 88 = .ok (.lload 21, 2) := by decide +kernel
theorem dX2_isMore_90 : decode cX2_isMore 90 = .ok (.lconst 0, 1) := by decide +kernel
theorem dX2_isMore_91 : decode cX2_isMore 91 = .ok (.lcmp, 1) := by decide +kernel
theorem dX2_isMore_92 : decode cX2_isMore 92 = .ok (.ifCond .eq 10, 3) := by decide +kernel
theorem dX2_isMore_102 : decode cX2_isMore 102 = .ok (.lload 21, 2) := by decide +kernel
theorem dX2_isMore_104 : decode cX2_isMore 104 = .ok (.lload 23, 2) := by decide +kernel
theorem dX2_isMore_106 : decode cX2_isMore 106 = .ok (.lcmp, 1) := by decide +kernel
theorem dX2_isMore_107 : decode cX2_isMore 107 = .ok (.ifCond .le 7, 3) := by decide +kernel
theorem dX2_isMore_114 : decode cX2_isMore 114 = .ok (.iconst 0, 1) := by decide +kernel
theorem dX2_isMore_115 : decode cX2_isMore 115 = .ok (.ireturn, 1) := by decide +kernel
theorem dX2_isMore_110 : decode cX2_isMore 110 = .ok (.iconst 1, 1) := by decide +kernel
theorem dX2_isMore_111 : decode cX2_isMore 111 = .ok (.goto 4, 3) := by decide +kernel
theorem dX2_isMore_95 : decode cX2_isMore 95 = .ok (.lload 23, 2) := by decide +kernel
theorem dX2_isMore_97 : decode cX2_isMore 97 = .ok (.lconst 0, 1) := by decide +kernel
theorem dX2_isMore_98 : decode cX2_isMore 98 = .ok (.lcmp, 1) := by decide +kernel
theorem dX2_isMore_99 : decode cX2_isMore 99 = .ok (.ifCond .ne 17, 3) := by decide +kernel
theorem dX2_isMore_116 : decode cX2_isMore 116 = .ok (.lload 14, 2) := by decide +kernel
theorem dX2_isMore_118 : decode cX2_isMore 118 = .ok (.lstore 8, 2) := by decide +kernel
theorem dX2_isMore_120 : decode cX2_isMore 120 = .ok (.lload 10, 2) := by decide +kernel
theorem dX2_isMore_122 : decode cX2_isMore 122 = .ok (.lstore 12, 2) := by decide +kernel
theorem dX2_isMore_124 : decode cX2_isMore 124 = .ok (.lload 23, 2) := by decide +kernel
theorem dX2_isMore_126 : decode cX2_isMore 126 = .ok (.lstore 10, 2) := by decide +kernel
theorem dX2_isMore_128 : decode cX2_isMore 128 = .ok (.lload 21, 2) := by decide +kernel
theorem dX2_isMore_130 : decode cX2_isMore 130 = .ok (.lstore 14, 2) := by decide +kernel
theorem dX2_isMore_132 : decode cX2_isMore 132 = .ok (.iinc 16 1, 3) := by decide +kernel
theorem dX2_isMore_135 : decode cX2_isMore 135 = .ok (.goto (-118), 3) := by decide +kernel
theorem dX2_isMore_60 : decode cX2_isMore 60 = .ok (.lload 17, 2) := by decide +kernel
theorem dX2_isMore_62 : decode cX2_isMore 62 = .ok (.lload 19, 2) := by decide +kernel
theorem dX2_isMore_64 : decode cX2_isMore 64 = .ok (.lcmp, 1) := by decide +kernel
theorem dX2_isMore_65 : decode cX2_isMore 65 = .ok (.ifCond .le 7, 3) := by decide +kernel
theorem dX2_isMore_72 : decode cX2_isMore 72 = .ok (.iconst 0, 1) := by decide +kernel
theorem dX2_isMore_73 : decode cX2_isMore 73 = .ok (.ireturn, 1) := by decide +kernel
theorem dX2_isMore_68 : decode cX2_isMore 68 = .ok (.iconst 1, 1) := by decide +kernel
theorem dX2_isMore_69 : decode cX2_isMore 69 = .ok (.goto 4, 3) := by decide +kernel
theorem dX2_isMore_138 : decode cX2_isMore 138 = .ok (.iconst 0, 1) := by decide +kernel
theorem dX2_isMore_139 : decode cX2_isMore 139 = .ok (.ireturn, 1) := by decide +kernel
set_option maxHeartbeats 4000000 in
set_option maxRecDepth 100000 in
theorem f_isMore (l : Launch) (dC : Nat → ClassId) (dI : Nat → Nat → Nat) (pa : Int64) (pb : Int64) (pc_ : Int64) (pd : Int64) : Met l yX2_isMore wsX2_isMore ({ frames := 0, cells := 0, slots := 0, locals := 0 }) (va_Pc [.long pa, .long pb, .long pc_, .long pd] (fun _ => True)) (vp_Si (fun r => r = 0 ∨ r = 1)) 0 0 (fun _ => False) := by
  refine Met.ofW (cc := cX2_isMore) (maxL := 25) (ret := (some .boolean)) (by decide) rfl ?_
  intro p e s m args below meth c s₁ B hml hv
  obtain ⟨rfl, -⟩ := hv
  have hx := B.exec
  have hb := B.bytes
  have hr := B.returns
  have hts := atoms_spec (ws := wsX2_isMore) B.pre
  have hown : s.vm.findClass RX2 = some m.cls := findClass_of_methodNamed B.named
  have hlocks := B.notSynchronized
  have hl := lv_entry ([.long pa, .long pb, .long pc_, .long pd]) (n := 25) (Nat.le_of_ble_eq_true rfl)
  rw [lg_entry_eq]
  generalize (lg_sl ([.long pa, .long pb, .long pc_, .long pd]) ++ List.replicate (25 - (lg_sl ([.long pa, .long pb, .long pc_, .long pd])).length) Slot.unset).toArray = ls at hl ⊢
  have hl : lv_has ls 25 [(0, .long pa), (2, .long pb), (4, .long pc_), (6, .long pd)] := hl
  refine lv_lload_n hx hb dX2_isMore_0 rfl (lv_at hl 0 rfl) ?_
  refine lv_lstore (lv' := [(8, .long pa), (0, .long pa), (2, .long pb), (4, .long pc_), (6, .long pd)]) hx hb dX2_isMore_1 hl (by decide) rfl (fun ls hl => ?_)
  refine lv_lload_n hx hb dX2_isMore_3 rfl (lv_at hl 2 rfl) ?_
  refine lv_lstore (lv' := [(10, .long pb), (8, .long pa), (0, .long pa), (2, .long pb), (4, .long pc_), (6, .long pd)]) hx hb dX2_isMore_4 hl (by decide) rfl (fun ls hl => ?_)
  refine lv_lload hx hb dX2_isMore_6 (lv_at hl 4 rfl) ?_
  refine lv_lstore (lv' := [(12, .long pc_), (10, .long pb), (8, .long pa), (0, .long pa), (2, .long pb), (4, .long pc_), (6, .long pd)]) hx hb dX2_isMore_8 hl (by decide) rfl (fun ls hl => ?_)
  refine lv_lload hx hb dX2_isMore_10 (lv_at hl 6 rfl) ?_
  refine lv_lstore (lv' := [(14, .long pd), (12, .long pc_), (10, .long pb), (8, .long pa), (0, .long pa), (2, .long pb), (4, .long pc_), (6, .long pd)]) hx hb dX2_isMore_12 hl (by decide) rfl (fun ls hl => ?_)
  refine lv_iconst (v := 0) hx hb dX2_isMore_14 (by decide) ?_
  refine lv_istore (lv' := [(16, .int 0), (14, .long pd), (12, .long pc_), (10, .long pb), (8, .long pa), (0, .long pa), (2, .long pb), (4, .long pc_), (6, .long pd)]) hx hb dX2_isMore_15 hl (by decide) rfl (fun ls hl => ?_)
  refine tz_while (σ := Nat × Int64 × Int64 × Int64 × Int64 × Array Slot) (fun x => W p l e _ s m _ below meth c _ _ _ _ _ (F0 m 17 x.2.2.2.2.2 [])) (fun x => x.1 ≤ 100 ∧ lv_has x.2.2.2.2.2 25 [(16, .int (nI x.1)), (14, .long x.2.1), (12, .long x.2.2.1), (10, .long x.2.2.2.1), (8, .long x.2.2.2.2.1), (0, .long pa), (2, .long pb), (4, .long pc_), (6, .long pd)]) (fun x => 100 - x.1) ?_ (0, pd, pc_, pb, pa, ls) ⟨by omega, hl⟩
  rintro ⟨k_1, v_17, v_18, v_19, v_20, ls⟩ ⟨hi_36_0, hl⟩ ih_37
  dsimp only at hi_36_0 hl ih_37 ⊢
  refine lv_iload hx hb dX2_isMore_17 (lv_at hl 0 rfl) ?_
  refine lv_bipush (v := 100) hx hb dX2_isMore_19 (by decide) ?_
  refine lv_icmp_ge (tgt := 138) hx hb dX2_isMore_21 (by decide) (fun c_38 => ?_) (fun c_38 => ?_)
  · have hn_39 : 100 ≤ k_1 := (nI_leI (a := 100) (b := k_1) (by omega) (by omega)).mp c_38
    refine lv_iconst (v := 0) hx hb dX2_isMore_138 (by decide) ?_
    exact W.zret (v := 0) hx hb hr (by decide) (fun t ht hW => ⟨0, rfl, Or.inl rfl, ht⟩) (fun _ h => absurd h List.not_mem_nil) dX2_isMore_139
  · have hn_40 : ¬ 100 ≤ k_1 := fun q => c_38 ((nI_leI (a := 100) (b := k_1) (by omega) (by omega)).mpr q)
    refine lv_lload hx hb dX2_isMore_24 (lv_at hl 3 rfl) ?_
    refine lv_lconst (v := 0) hx hb dX2_isMore_26 (by decide) ?_
    refine W.lcmp hx hb dX2_isMore_27 ?_
    refine lv_if_le (tgt := 138) hx hb dX2_isMore_28 (by decide) (fun c_41 => ?_) (fun c_41 => ?_)
    · refine lv_iconst (v := 0) hx hb dX2_isMore_138 (by decide) ?_
      exact W.zret (v := 0) hx hb hr (by decide) (fun t ht hW => ⟨0, rfl, Or.inl rfl, ht⟩) (fun _ h => absurd h List.not_mem_nil) dX2_isMore_139
    · refine lv_lload hx hb dX2_isMore_31 (lv_at hl 1 rfl) ?_
      refine lv_lconst (v := 0) hx hb dX2_isMore_33 (by decide) ?_
      refine W.lcmp hx hb dX2_isMore_34 ?_
      refine lv_if_le (tgt := 138) hx hb dX2_isMore_35 (by decide) (fun c_42 => ?_) (fun c_42 => ?_)
      · refine lv_iconst (v := 0) hx hb dX2_isMore_138 (by decide) ?_
        exact W.zret (v := 0) hx hb hr (by decide) (fun t ht hW => ⟨0, rfl, Or.inl rfl, ht⟩) (fun _ h => absurd h List.not_mem_nil) dX2_isMore_139
      · refine lv_lload hx hb dX2_isMore_38 (lv_at hl 4 rfl) ?_
        refine lv_lload hx hb dX2_isMore_40 (lv_at hl 3 rfl) ?_
        refine lv_ldiv hx hb dX2_isMore_42 (tz_cmp_pos c_41) ?_
        refine lv_topl (fun x_43 _ => ?_)
        refine lv_lstore (lv' := [(17, .long x_43), (16, .int (nI k_1)), (14, .long v_17), (12, .long v_18), (10, .long v_19), (8, .long v_20), (0, .long pa), (2, .long pb), (4, .long pc_), (6, .long pd)]) hx hb dX2_isMore_43 hl (by decide) rfl (fun ls hl => ?_)
        refine lv_lload hx hb dX2_isMore_45 (lv_at hl 3 rfl) ?_
        refine lv_lload hx hb dX2_isMore_47 (lv_at hl 2 rfl) ?_
        refine lv_ldiv hx hb dX2_isMore_49 (tz_cmp_pos c_42) ?_
        refine lv_topl (fun x_44 _ => ?_)
        refine lv_lstore (lv' := [(19, .long x_44), (17, .long x_43), (16, .int (nI k_1)), (14, .long v_17), (12, .long v_18), (10, .long v_19), (8, .long v_20), (0, .long pa), (2, .long pb), (4, .long pc_), (6, .long pd)]) hx hb dX2_isMore_50 hl (by decide) rfl (fun ls hl => ?_)
        refine lv_lload hx hb dX2_isMore_52 (lv_at hl 1 rfl) ?_
        refine lv_lload hx hb dX2_isMore_54 (lv_at hl 0 rfl) ?_
        refine W.lcmp hx hb dX2_isMore_56 ?_
        refine lv_if_eq (tgt := 74) hx hb dX2_isMore_57 (by decide) (fun c_45 => ?_) (fun c_45 => ?_)
        · refine lv_lload hx hb dX2_isMore_74 (lv_at hl 6 rfl) ?_
          refine lv_lload hx hb dX2_isMore_76 (lv_at hl 5 rfl) ?_
          refine lv_lrem hx hb dX2_isMore_78 (tz_cmp_pos c_41) ?_
          refine lv_topl (fun x_46 _ => ?_)
          refine lv_lstore (lv' := [(21, .long x_46), (19, .long x_44), (17, .long x_43), (16, .int (nI k_1)), (14, .long v_17), (12, .long v_18), (10, .long v_19), (8, .long v_20), (0, .long pa), (2, .long pb), (4, .long pc_), (6, .long pd)]) hx hb dX2_isMore_79 hl (by decide) rfl (fun ls hl => ?_)
          refine lv_lload hx hb dX2_isMore_81 (lv_at hl 5 rfl) ?_
          refine lv_lload hx hb dX2_isMore_83 (lv_at hl 4 rfl) ?_
          refine lv_lrem hx hb dX2_isMore_85 (tz_cmp_pos c_42) ?_
          refine lv_topl (fun x_47 _ => ?_)
          refine lv_lstore (lv' := [(23, .long x_47), (21, .long x_46), (19, .long x_44), (17, .long x_43), (16, .int (nI k_1)), (14, .long v_17), (12, .long v_18), (10, .long v_19), (8, .long v_20), (0, .long pa), (2, .long pb), (4, .long pc_), (6, .long pd)]) hx hb dX2_isMore_86 hl (by decide) rfl (fun ls hl => ?_)
          refine lv_lload hx hb dX2_isMore_88 (lv_at hl 1 rfl) ?_
          refine lv_lconst (v := 0) hx hb dX2_isMore_90 (by decide) ?_
          refine W.lcmp hx hb dX2_isMore_91 ?_
          refine lv_if_eq (tgt := 102) hx hb dX2_isMore_92 (by decide) (fun c_48 => ?_) (fun c_48 => ?_)
          · refine lv_lload hx hb dX2_isMore_102 (lv_at hl 1 rfl) ?_
            refine lv_lload hx hb dX2_isMore_104 (lv_at hl 0 rfl) ?_
            refine W.lcmp hx hb dX2_isMore_106 ?_
            refine lv_if_le (tgt := 114) hx hb dX2_isMore_107 (by decide) (fun c_49 => ?_) (fun c_49 => ?_)
            · refine lv_iconst (v := 0) hx hb dX2_isMore_114 (by decide) ?_
              exact W.zret (v := 0) hx hb hr (by decide) (fun t ht hW => ⟨0, rfl, Or.inl rfl, ht⟩) (fun _ h => absurd h List.not_mem_nil) dX2_isMore_115
            · refine lv_iconst (v := 1) hx hb dX2_isMore_110 (by decide) ?_
              refine lv_goto (tgt := 115) hx hb dX2_isMore_111 (by decide) ?_
              exact W.zret (v := 1) hx hb hr (by decide) (fun t ht hW => ⟨1, rfl, Or.inr rfl, ht⟩) (fun _ h => absurd h List.not_mem_nil) dX2_isMore_115
          · refine lv_lload hx hb dX2_isMore_95 (lv_at hl 0 rfl) ?_
            refine lv_lconst (v := 0) hx hb dX2_isMore_97 (by decide) ?_
            refine W.lcmp hx hb dX2_isMore_98 ?_
            refine lv_if_ne (tgt := 116) hx hb dX2_isMore_99 (by decide) (fun c_50 => ?_) (fun c_50 => ?_)
            · refine lv_lload hx hb dX2_isMore_116 (lv_at hl 5 rfl) ?_
              refine lv_lstore (lv' := [(8, .long v_17), (23, .long x_47), (21, .long x_46), (19, .long x_44), (17, .long x_43), (16, .int (nI k_1)), (14, .long v_17), (12, .long v_18), (10, .long v_19), (0, .long pa), (2, .long pb), (4, .long pc_), (6, .long pd)]) hx hb dX2_isMore_118 hl (by decide) rfl (fun ls hl => ?_)
              refine lv_lload hx hb dX2_isMore_120 (lv_at hl 8 rfl) ?_
              refine lv_lstore (lv' := [(12, .long v_19), (8, .long v_17), (23, .long x_47), (21, .long x_46), (19, .long x_44), (17, .long x_43), (16, .int (nI k_1)), (14, .long v_17), (10, .long v_19), (0, .long pa), (2, .long pb), (4, .long pc_), (6, .long pd)]) hx hb dX2_isMore_122 hl (by decide) rfl (fun ls hl => ?_)
              refine lv_lload hx hb dX2_isMore_124 (lv_at hl 2 rfl) ?_
              refine lv_lstore (lv' := [(10, .long x_47), (12, .long v_19), (8, .long v_17), (23, .long x_47), (21, .long x_46), (19, .long x_44), (17, .long x_43), (16, .int (nI k_1)), (14, .long v_17), (0, .long pa), (2, .long pb), (4, .long pc_), (6, .long pd)]) hx hb dX2_isMore_126 hl (by decide) rfl (fun ls hl => ?_)
              refine lv_lload hx hb dX2_isMore_128 (lv_at hl 4 rfl) ?_
              refine lv_lstore (lv' := [(14, .long x_46), (10, .long x_47), (12, .long v_19), (8, .long v_17), (23, .long x_47), (21, .long x_46), (19, .long x_44), (17, .long x_43), (16, .int (nI k_1)), (0, .long pa), (2, .long pb), (4, .long pc_), (6, .long pd)]) hx hb dX2_isMore_130 hl (by decide) rfl (fun ls hl => ?_)
              refine lv_iinc (v := (nI (k_1 + 1))) (lv' := [(16, .int (nI (k_1 + 1))), (14, .long x_46), (10, .long x_47), (12, .long v_19), (8, .long v_17), (23, .long x_47), (21, .long x_46), (19, .long x_44), (17, .long x_43), (0, .long pa), (2, .long pb), (4, .long pc_), (6, .long pd)]) hx hb dX2_isMore_132 hl (k := 8) rfl (nI_add k_1 1) (by decide) rfl (fun ls hl => ?_)
              refine lv_goto (tgt := 17) hx hb dX2_isMore_135 (by decide) ?_
              exact ih_37 ((k_1 + 1), x_46, v_19, x_47, v_17, ls) ⟨by dsimp only; omega, lv_sub hl [0, 1, 3, 2, 4, 9, 10, 11, 12] rfl⟩ (by dsimp only; omega)
            · refine lv_lload hx hb dX2_isMore_102 (lv_at hl 1 rfl) ?_
              refine lv_lload hx hb dX2_isMore_104 (lv_at hl 0 rfl) ?_
              refine W.lcmp hx hb dX2_isMore_106 ?_
              refine lv_if_le (tgt := 114) hx hb dX2_isMore_107 (by decide) (fun c_51 => ?_) (fun c_51 => ?_)
              · refine lv_iconst (v := 0) hx hb dX2_isMore_114 (by decide) ?_
                exact W.zret (v := 0) hx hb hr (by decide) (fun t ht hW => ⟨0, rfl, Or.inl rfl, ht⟩) (fun _ h => absurd h List.not_mem_nil) dX2_isMore_115
              · refine lv_iconst (v := 1) hx hb dX2_isMore_110 (by decide) ?_
                refine lv_goto (tgt := 115) hx hb dX2_isMore_111 (by decide) ?_
                exact W.zret (v := 1) hx hb hr (by decide) (fun t ht hW => ⟨1, rfl, Or.inr rfl, ht⟩) (fun _ h => absurd h List.not_mem_nil) dX2_isMore_115
        · refine lv_lload hx hb dX2_isMore_60 (lv_at hl 1 rfl) ?_
          refine lv_lload hx hb dX2_isMore_62 (lv_at hl 0 rfl) ?_
          refine W.lcmp hx hb dX2_isMore_64 ?_
          refine lv_if_le (tgt := 72) hx hb dX2_isMore_65 (by decide) (fun c_52 => ?_) (fun c_52 => ?_)
          · refine lv_iconst (v := 0) hx hb dX2_isMore_72 (by decide) ?_
            exact W.zret (v := 0) hx hb hr (by decide) (fun t ht hW => ⟨0, rfl, Or.inl rfl, ht⟩) (fun _ h => absurd h List.not_mem_nil) dX2_isMore_73
          · refine lv_iconst (v := 1) hx hb dX2_isMore_68 (by decide) ?_
            refine lv_goto (tgt := 73) hx hb dX2_isMore_69 (by decide) ?_
            exact W.zret (v := 1) hx hb hr (by decide) (fun t ht hW => ⟨1, rfl, Or.inr rfl, ht⟩) (fun _ h => absurd h List.not_mem_nil) dX2_isMore_73
